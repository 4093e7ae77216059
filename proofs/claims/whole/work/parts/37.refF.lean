theorem ix300_1 {P : Prop} {k i : Int32} (hk : 0 ≤ k.toInt ∧ k.toInt < 24 ∧ P) (h0 : 0 ≤ i.toInt) (h1 : i.toInt + 1 < 300) : (300 * k + i + 1) = 300 * k + (i + 1) := by
  have e1 := ix300 hk (i := i) ⟨h0, by omega⟩
  have e2 : (i + 1).toInt = i.toInt + 1 := i32_1 (by omega)
  have e3 := ix300 hk (i := i + 1) ⟨by omega, by omega⟩
  exact i32_ext (by rw [i32_1 (by omega), e3]; omega)
theorem vw300_1 {P : Prop} {f : Fn} {k i : Int32} (hk : 0 ≤ k.toInt ∧ k.toInt < 24 ∧ P) (h0 : 0 ≤ i.toInt ∧ i.toInt + 1 < 300) : f (300 * k + i + 1).toNatClampNeg = vw 300 f k (i + 1).toNatClampNeg := by
  rw [ix300_1 hk h0.1 h0.2]
  have e2 : (i + 1).toInt = i.toInt + 1 := i32_1 (by omega)
  exact vw300 hk ⟨by omega, by omega⟩
theorem in300_1 {P : Prop} {k i : Int32} (hk : 0 ≤ k.toInt ∧ k.toInt < 24 ∧ P) (h0 : 0 ≤ i.toInt ∧ i.toInt + 1 < 300) : vp_in (300 * k + i + 1) 7200 := by
  rw [ix300_1 hk h0.1 h0.2]
  have e2 : (i + 1).toInt = i.toInt + 1 := i32_1 (by omega)
  exact in300 hk ⟨by omega, by omega⟩
theorem p1_lt {p c N : Int32} (h0 : 0 ≤ p.toInt) (h1 : ¬ N ≤ p) (hN : N.toInt ≤ 300) (z : ¬ zcoF c = 0) (q : ¬ (3 : Int32) ≤ c) (w : p + zleF c ≤ N) : 0 ≤ p.toInt ∧ p.toInt + 1 < 300 := by
  have l2 : zleF c = 2 := by rcases (zco_f z).2.2.2.2.1 q with rfl | rfl <;> rfl
  have h2 := i_lt h1
  rw [l2, Int32.le_iff_toInt_le, i32_add (by rw [show (2 : Int32).toInt = 2 by decide]; omega) (by rw [show (2 : Int32).toInt = 2 by decide]; omega), show (2 : Int32).toInt = 2 by decide] at w
  omega
theorem one_p {p : Int32} (h0 : 0 ≤ p.toInt) (h1 : p.toInt ≤ 305) : ¬ 1 + p = 0 := fun e => by
  have h := congrArg Int32.toInt e
  rw [i32_add (by rw [show (1 : Int32).toInt = 1 by decide]; omega) (by rw [show (1 : Int32).toInt = 1 by decide]; omega), show (1 : Int32).toInt = 1 by decide, Int32.toInt_zero] at h
  omega
theorem two_p (p : Int32) : 2 + p = 1 + (p + 1) := by
  rw [Int32.add_comm p 1, ← Int32.add_assoc]
  rfl
theorem ck_w {r x : Int32} {P : Prop} (e : r = x) (hn : ¬ r = 0) : r = x ∧ (x = 0 → P) := ⟨e, fun z => absurd (e.trans z) hn⟩
theorem upd_ag {f g : Fn} {k : Nat} {v : Int32} {N : Int} (h : ∀ j : Nat, (j : Int) < N → f j = g j) (j : Nat) (hj : (j : Int) < N) : upd f k v j = upd g k v j := by
  by_cases e : j = k
  · rw [e, pk_us, pk_us]
  · rw [pk_un e, pk_un e]; exact h j hj
theorem vcT_4 {b : Fn} {bc at1 dp c : Int32} {n : Nat} {d : Fn} (q : ¬ dp < ztaF c) (q4 : 4 < dp - ztaF c + zpuF c) : (vcT b bc n at1 dp c d).1 = 1 + at1 := by
  unfold vcT
  rw [if_neg q]
  by_cases e : c = 10
  · rw [if_pos e]
    by_cases e0 : dp = 0
    · rw [e, e0] at q4
      exact absurd q4 (by decide)
    · rw [if_neg e0]
  · rw [if_neg e, if_pos q4]

theorem i_nlt {x N : Int32} (h : ¬ N < x) : x.toInt ≤ N.toInt := by rw [Int32.lt_iff_toInt_lt] at h; omega
theorem i_plt {x N : Int32} (h : N < x) : N.toInt < x.toInt := by rw [Int32.lt_iff_toInt_lt] at h; exact h
theorem in301 {x : Int32} (h0 : 0 ≤ x.toInt) (h1 : x.toInt ≤ 300) : vp_in x 301 := vp_in_iff.mpr ⟨h0, by omega⟩

abbrev w_Z_checkCodes : List Cond := .code y_Z_checkCodes b_Z_checkCodes 7 (some .int) :: BIG
set_option maxHeartbeats 4000000 in
set_option maxRecDepth 100000 in
theorem c_Z_checkCodes (l : Launch) (D : va_G) (cI cL cO : ClassId) (z0 : Nat) (y1 : Nat) (y2 : Nat) (y3 : Nat) (y4 : Nat) (y5 : Nat) (y6 : Nat) (y7 : Nat) (y8 : Nat) (y9 : Nat) (y10 : Nat) (y11 : Nat) (y12 : Nat) (y13 : Nat) (y14 : Nat) (mn : Fn) (oo : Fn) (oa : Fn) (ob : Fn) (ss : Fn) (gg : Fn) (zz : Fn) (md : Fn) (sd : Fn) (da : Fn) (rg : FL) (pp : FL) (kp : FL) (ot : FL) (th : Int32) (li : Int32) (bl : Int32) (nw : Int32) (wr : Int32) (ru : Int32) (al : Int32) (sp : Int32) (en : Int32) (ke : Int32) (kb : Int32) (at0 : Int32) (fr : va_W) (k : Int32) (hzz : ∀ j, j < 24 → 0 ≤ (zz j).toInt ∧ (zz j).toInt ≤ 300) (hk : 0 ≤ k.toInt ∧ k.toInt < 24 ∧ True) (hY : okY (vw 300 md k)) : CMi l y_Z_checkCodes w_Z_checkCodes ({ frames := 2, cells := 0, slots := 0, locals := 42 }) D cI cL cO [.ref z0, .int k] ((wZ cI cL z0 y1 y2 y3 y4 y5 y6 y7 y8 y9 y10 y11 y12 y13 y14 mn oo oa ob ss gg zz md sd da rg pp kp ot th li bl nw wr ru al sp en ke kb at0) ++ fr) (fun (r : Int32) (u : Fn) => r = (vcF (vw 300 md k) (zz k.toNatClampNeg)).1 ∧ ((vcF (vw 300 md k) (zz k.toNatClampNeg)).1 = 0 → ∀ j : Nat, (j : Int) < (zz k.toNatClampNeg).toInt → u j = (vcF (vw 300 md k) (zz k.toNatClampNeg)).2 j)) (fun u : Fn => ((wZ cI cL z0 y1 y2 y3 y4 y5 y6 y7 y8 y9 y10 y11 y12 y13 y14 mn oo oa ob ss gg zz md sd u rg pp kp ot th li bl nw wr ru al sp en ke kb at0) ++ fr)) 0 0 := by
  refine ofMi (cc := b_Z_checkCodes) (maxL := 7) (ret := (some .int)) (by decide) rfl (Nat.le_of_ble_eq_true rfl) ?_
  intro p e s m below meth c A ls H Q hQ hx hb hr hlocks hin hts hown hml hP hK hD hS hA hl
  have hl : lv_has ls 7 [(0, .ref z0), (1, .int k)] := hl
  have hown : s.vm.findClass R_Z = some m.cls := hown
  have ht : ∀ w ∈ BIG, w.before _ s = true := fun w h => hts w (List.mem_cons_of_mem _ h)
  refine lv_aload_n hx hb d_Z_checkCodes_0 rfl (lv_at hl 0 rfl) ?_
  refine va_get (ci := 5) (v := .ref y7) (C := R_Z) (T := T_Z) (N := 26) hx hb ht in_Z hown hK.1 hP 0 rfl rfl 13 (by decide) (ht _ k_fl_Z_28) (fun _ h9 => h9) rfl d_Z_checkCodes_1 ?_
  refine lv_iload_n hx hb d_Z_checkCodes_4 rfl (lv_at hl 1 rfl) ?_
  refine va_iald hx hb hK.1 hP 7 0 rfl rfl (in_k hk) d_Z_checkCodes_5 ?_
  refine lv_istore_n (lv' := [(2, .int (zz k.toNatClampNeg)), (0, .ref z0), (1, .int k)]) hx hb d_Z_checkCodes_6 rfl hl (by decide) rfl (fun ls hl => ?_)
  refine lv_iconst (v := 0) hx hb d_Z_checkCodes_7 (by decide) ?_
  refine lv_istore_n (lv' := [(3, .int 0), (2, .int (zz k.toNatClampNeg)), (0, .ref z0), (1, .int k)]) hx hb d_Z_checkCodes_8 rfl hl (by decide) rfl (fun ls hl => ?_)
  have lp : ∀ (n : Nat) (i : Int32) (da1 : Fn) (H : Heap) (locs : List Loc) (ls : Array Slot), (i.toInt + (n : Int) = 302) → (0 ≤ i.toInt ∧ i.toInt ≤ 301) → (∀ j : Nat, (j : Int) < i.toInt → da1 j = -1) → va_P D vwCl ((wZ cI cL z0 y1 y2 y3 y4 y5 y6 y7 y8 y9 y10 y11 y12 y13 y14 mn oo oa ob ss gg zz md sd da1 rg pp kp ot th li bl nw wr ru al sp en ke kb at0) ++ fr) H → va_D A ((wZ cI cL z0 y1 y2 y3 y4 y5 y6 y7 y8 y9 y10 y11 y12 y13 y14 mn oo oa ob ss gg zz md sd da1 rg pp kp ot th li bl nw wr ru al sp en ke kb at0) ++ fr) → va_S A s.heap H locs → lv_has ls 7 [(0, .ref z0), (1, .int k), (2, .int (zz k.toNatClampNeg)), (3, .int i)] → W p l e ({ frames := 2, cells := 0, slots := 0, locals := 42 } : Room) s m ([.ref z0, .int k] : List Value).toArray below meth c H locs 0 0 Q (F0 m 9 ls []) := by
    intro n
    induction n with
    | zero =>
      intro i da1 H locs ls hn hi hf hP hD hS hl
      exact absurd hn (by omega)
    | succ n ih =>
      intro i da1 H locs ls hn hi hf hP hD hS hl
      refine lv_iload_n hx hb d_Z_checkCodes_9 rfl (lv_at hl 3 rfl) ?_
      refine lv_iload_n hx hb d_Z_checkCodes_10 rfl (lv_at hl 2 rfl) ?_
      refine lv_icmp_gt (tgt := 27) hx hb d_Z_checkCodes_11 (by decide) (fun c_11 => ?_) (fun c_11 => ?_)
      · refine lv_iconst (v := 0) hx hb d_Z_checkCodes_27 (by decide) ?_
        refine lv_istore_n (lv' := [(3, .int 0), (0, .ref z0), (1, .int k), (2, .int (zz k.toNatClampNeg))]) hx hb d_Z_checkCodes_28 rfl hl (by decide) rfl (fun ls hl => ?_)
        refine lv_iconst (v := 0) hx hb d_Z_checkCodes_29 (by decide) ?_
        refine lv_istore (lv' := [(4, .int 0), (3, .int 0), (0, .ref z0), (1, .int k), (2, .int (zz k.toNatClampNeg))]) hx hb d_Z_checkCodes_30 hl (by decide) rfl (fun ls hl => ?_)
        have lp : ∀ (n : Nat) (dp : Int32) (p1 : Int32) (da2 : Fn) (d1 : Fn) (H : Heap) (locs : List Loc) (ls : Array Slot), (305 ≤ p1.toInt + (n : Int)) → (0 ≤ p1.toInt ∧ p1.toInt ≤ 304) → (0 ≤ dp.toInt ∧ dp.toInt ≤ 4) → (vcL (vw 300 md k) (zz k.toNatClampNeg) n p1 dp d1 = vcF (vw 300 md k) (zz k.toNatClampNeg)) → (∀ j : Nat, (j : Int) < (zz k.toNatClampNeg).toInt → da2 j = d1 j) → va_P D vwCl ((wZ cI cL z0 y1 y2 y3 y4 y5 y6 y7 y8 y9 y10 y11 y12 y13 y14 mn oo oa ob ss gg zz md sd da2 rg pp kp ot th li bl nw wr ru al sp en ke kb at0) ++ fr) H → va_D A ((wZ cI cL z0 y1 y2 y3 y4 y5 y6 y7 y8 y9 y10 y11 y12 y13 y14 mn oo oa ob ss gg zz md sd da2 rg pp kp ot th li bl nw wr ru al sp en ke kb at0) ++ fr) → va_S A s.heap H locs → lv_has ls 7 [(0, .ref z0), (1, .int k), (2, .int (zz k.toNatClampNeg)), (3, .int dp), (4, .int p1)] → W p l e ({ frames := 2, cells := 0, slots := 0, locals := 42 } : Room) s m ([.ref z0, .int k] : List Value).toArray below meth c H locs 0 0 Q (F0 m 32 ls []) := by
          intro n
          induction n with
          | zero =>
            intro dp p1 da2 d1 H locs ls hn hi hdp hF hd hP hD hS hl
            exact absurd hn (by omega)
          | succ n ih =>
            intro dp p1 da2 d1 H locs ls hn hi hdp hF hd hP hD hS hl
            refine lv_iload hx hb d_Z_checkCodes_32 (lv_at hl 4 rfl) ?_
            refine lv_iload_n hx hb d_Z_checkCodes_34 rfl (lv_at hl 2 rfl) ?_
            refine lv_icmp_ge (tgt := 207) hx hb d_Z_checkCodes_35 (by decide) (fun c_35 => ?_) (fun c_35 => ?_)
            · refine lv_iconst (v := 1) hx hb d_Z_checkCodes_207 (by decide) ?_
              refine lv_iload_n hx hb d_Z_checkCodes_208 rfl (lv_at hl 2 rfl) ?_
              refine lv_iadd hx hb d_Z_checkCodes_209 ?_
              rw [hQ]; exact retMi (w1 := fun u : Fn => ((wZ cI cL z0 y1 y2 y3 y4 y5 y6 y7 y8 y9 y10 y11 y12 y13 y14 mn oo oa ob ss gg zz md sd u rg pp kp ot th li bl nw wr ru al sp en ke kb at0) ++ fr)) da2 hx hb hr hlocks hP hD hS (ck_w (by rw [← hF]; simp only [vcL, if_pos c_35]) (one_p (hzz _ (kc hk)).1 (by have := (hzz _ (kc hk)).2; omega))) d_Z_checkCodes_210
            · have hR := vcR (n := n) (dp := dp) (d := d1) hi.1 c_35 (hzz _ (kc hk)).2 hY
              rw [hR] at hF
              refine lv_aload_n hx hb d_Z_checkCodes_38 rfl (lv_at hl 0 rfl) ?_
              refine va_get (ci := 5) (v := .ref y8) (C := R_Z) (T := T_Z) (N := 26) hx hb ht in_Z hown hK.1 hP 0 rfl rfl 14 (by decide) (ht _ k_fl_Z_31) (fun _ h9 => h9) rfl d_Z_checkCodes_39 ?_
              refine lv_sipush (v := 300) hx hb d_Z_checkCodes_42 (by decide) ?_
              refine lv_iload_n hx hb d_Z_checkCodes_45 rfl (lv_at hl 1 rfl) ?_
              refine lv_imul hx hb d_Z_checkCodes_46 ?_
              refine lv_iload hx hb d_Z_checkCodes_47 (lv_at hl 4 rfl) ?_
              refine lv_iadd hx hb d_Z_checkCodes_49 ?_
              refine va_iald hx hb hK.1 hP 8 0 rfl rfl (in300 hk ⟨hi.1, by have := i_lt c_35; have := (hzz _ (kc hk)).2; omega⟩) d_Z_checkCodes_50 ?_
              rw [show md ((300 * k) + p1).toNatClampNeg = vw 300 md k p1.toNatClampNeg from (vw300 hk ⟨hi.1, by have := i_lt c_35; have := (hzz _ (kc hk)).2; omega⟩)]
              refine lv_istore (lv' := [(5, .int (vw 300 md k p1.toNatClampNeg)), (0, .ref z0), (1, .int k), (2, .int (zz k.toNatClampNeg)), (3, .int dp), (4, .int p1)]) hx hb d_Z_checkCodes_51 hl (by decide) rfl (fun ls hl => ?_)
              refine lv_iload hx hb d_Z_checkCodes_53 (lv_at hl 0 rfl) ?_
              refine goRi (va_runS (As := [.int (vw 300 md k p1.toNatClampNeg)]) (rest := []) ⟨hx, hb, hml, hown, hts⟩ (c_Z_isCode l D cI cL cO (vw 300 md k p1.toNatClampNeg)) (cwS 1 hts (gBIG (m3 k_ml_Z_99 k_st_Z_isCode k_ini_Z) k_co_Z_isCode) rfl rfl rfl (by decide +kernel) ⟨Nat.le_of_ble_eq_true rfl, Nat.le_of_ble_eq_true rfl⟩) ⟨PR.bl, PR.pre P_nil hK⟩ rfl rfl hl.1 rfl (lv_room (Nat.le_of_ble_eq_true rfl)) d_Z_checkCodes_55 ⟨Nat.le_of_ble_eq_true rfl, Nat.le_of_ble_eq_true rfl⟩) ?_
              refine lv_if_eq (tgt := 73) hx hb d_Z_checkCodes_58 (by decide) (fun c_58 => ?_) (fun c_58 => ?_)
              · refine lv_iconst (v := 1) hx hb d_Z_checkCodes_73 (by decide) ?_
                refine lv_iload hx hb d_Z_checkCodes_74 (lv_at hl 5 rfl) ?_
                refine lv_iadd hx hb d_Z_checkCodes_76 ?_
                rw [hQ]; exact retMi (w1 := fun u : Fn => ((wZ cI cL z0 y1 y2 y3 y4 y5 y6 y7 y8 y9 y10 y11 y12 y13 y14 mn oo oa ob ss gg zz md sd u rg pp kp ot th li bl nw wr ru al sp en ke kb at0) ++ fr)) da2 hx hb hr hlocks hP hD hS (ck_w (by rw [← hF]; simp only [if_pos c_11, if_neg c_35, if_pos c_58]) (one_p hi.1 (by omega))) d_Z_checkCodes_77
              · refine lv_iload hx hb d_Z_checkCodes_61 (lv_at hl 5 rfl) ?_
                refine lv_iload hx hb d_Z_checkCodes_63 (lv_at hl 0 rfl) ?_
                refine goRi (va_runS (As := [.int (vw 300 md k p1.toNatClampNeg)]) (rest := [.int p1]) ⟨hx, hb, hml, hown, hts⟩ (c_Z_lengthOf l D cI cL cO (vw 300 md k p1.toNatClampNeg)) (cwS 1 hts (gBIG (m3 k_ml_Z_102 k_st_Z_lengthOf k_ini_Z) k_co_Z_lengthOf) rfl rfl rfl (by decide +kernel) ⟨Nat.le_of_ble_eq_true rfl, Nat.le_of_ble_eq_true rfl⟩) ⟨PR.bl, PR.pre P_nil hK⟩ rfl rfl hl.1 rfl (lv_room (Nat.le_of_ble_eq_true rfl)) d_Z_checkCodes_65 ⟨Nat.le_of_ble_eq_true rfl, Nat.le_of_ble_eq_true rfl⟩) ?_
                refine lv_iadd hx hb d_Z_checkCodes_68 ?_
                refine lv_iload_n hx hb d_Z_checkCodes_69 rfl (lv_at hl 3 rfl) ?_
                refine lv_icmp_le (tgt := 78) hx hb d_Z_checkCodes_70 (by decide) (fun c_70 => ?_) (fun c_70 => ?_)
                · refine lv_iload hx hb d_Z_checkCodes_78 (lv_at hl 0 rfl) ?_
                  refine lv_iconst (v := 3) hx hb d_Z_checkCodes_80 (by decide) ?_
                  refine lv_icmp_ge (tgt := 108) hx hb d_Z_checkCodes_81 (by decide) (fun c_81 => ?_) (fun c_81 => ?_)
                  · refine lv_iload_n hx hb d_Z_checkCodes_108 rfl (lv_at hl 4 rfl) ?_
                    refine lv_iload hx hb d_Z_checkCodes_109 (lv_at hl 0 rfl) ?_
                    refine goRi (va_runS (As := [.int (vw 300 md k p1.toNatClampNeg)]) (rest := [.int dp]) ⟨hx, hb, hml, hown, hts⟩ (c_Z_takes l D cI cL cO (vw 300 md k p1.toNatClampNeg)) (cwS 1 hts (gBIG (m3 k_ml_Z_105 k_st_Z_takes k_ini_Z) k_co_Z_takes) rfl rfl rfl (by decide +kernel) ⟨Nat.le_of_ble_eq_true rfl, Nat.le_of_ble_eq_true rfl⟩) ⟨PR.bl, PR.pre P_nil hK⟩ rfl rfl hl.1 rfl (lv_room (Nat.le_of_ble_eq_true rfl)) d_Z_checkCodes_111 ⟨Nat.le_of_ble_eq_true rfl, Nat.le_of_ble_eq_true rfl⟩) ?_
                    refine lv_isub hx hb d_Z_checkCodes_114 ?_
                    refine lv_iload hx hb d_Z_checkCodes_115 (lv_at hl 0 rfl) ?_
                    refine goRi (va_runS (As := [.int (vw 300 md k p1.toNatClampNeg)]) (rest := [.int (dp - (ztaF (vw 300 md k p1.toNatClampNeg)))]) ⟨hx, hb, hml, hown, hts⟩ (c_Z_puts l D cI cL cO (vw 300 md k p1.toNatClampNeg)) (cwS 1 hts (gBIG (m3 k_ml_Z_108 k_st_Z_puts k_ini_Z) k_co_Z_puts) rfl rfl rfl (by decide +kernel) ⟨Nat.le_of_ble_eq_true rfl, Nat.le_of_ble_eq_true rfl⟩) ⟨PR.bl, PR.pre P_nil hK⟩ rfl rfl hl.1 rfl (lv_room (Nat.le_of_ble_eq_true rfl)) d_Z_checkCodes_117 ⟨Nat.le_of_ble_eq_true rfl, Nat.le_of_ble_eq_true rfl⟩) ?_
                    refine lv_iadd hx hb d_Z_checkCodes_120 ?_
                    refine lv_istore (lv' := [(6, .int ((dp - (ztaF (vw 300 md k p1.toNatClampNeg))) + (zpuF (vw 300 md k p1.toNatClampNeg)))), (5, .int (vw 300 md k p1.toNatClampNeg)), (0, .ref z0), (1, .int k), (2, .int (zz k.toNatClampNeg)), (3, .int dp), (4, .int p1)]) hx hb d_Z_checkCodes_121 hl (by decide) rfl (fun ls hl => ?_)
                    refine lv_iload_n hx hb d_Z_checkCodes_123 rfl (lv_at hl 5 rfl) ?_
                    refine lv_iload hx hb d_Z_checkCodes_124 (lv_at hl 1 rfl) ?_
                    refine goRi (va_runS (As := [.int (vw 300 md k p1.toNatClampNeg)]) (rest := [.int dp]) ⟨hx, hb, hml, hown, hts⟩ (c_Z_takes l D cI cL cO (vw 300 md k p1.toNatClampNeg)) (cwS 1 hts (gBIG (m3 k_ml_Z_105 k_st_Z_takes k_ini_Z) k_co_Z_takes) rfl rfl rfl (by decide +kernel) ⟨Nat.le_of_ble_eq_true rfl, Nat.le_of_ble_eq_true rfl⟩) ⟨PR.bl, PR.pre P_nil hK⟩ rfl rfl hl.1 rfl (lv_room (Nat.le_of_ble_eq_true rfl)) d_Z_checkCodes_126 ⟨Nat.le_of_ble_eq_true rfl, Nat.le_of_ble_eq_true rfl⟩) ?_
                    refine lv_icmp_lt (tgt := 149) hx hb d_Z_checkCodes_129 (by decide) (fun c_129 => ?_) (fun c_129 => ?_)
                    · refine lv_iconst (v := 1) hx hb d_Z_checkCodes_149 (by decide) ?_
                      refine lv_iload hx hb d_Z_checkCodes_150 (lv_at hl 6 rfl) ?_
                      refine lv_iadd hx hb d_Z_checkCodes_152 ?_
                      rw [hQ]; exact retMi (w1 := fun u : Fn => ((wZ cI cL z0 y1 y2 y3 y4 y5 y6 y7 y8 y9 y10 y11 y12 y13 y14 mn oo oa ob ss gg zz md sd u rg pp kp ot th li bl nw wr ru al sp en ke kb at0) ++ fr)) da2 hx hb hr hlocks hP hD hS (ck_w (by rw [← hF]; simp only [vcT, if_pos c_11, if_neg c_35, if_neg c_58, if_pos c_70, if_pos c_81, if_pos c_129]) (one_p hi.1 (by omega))) d_Z_checkCodes_153
                    · refine lv_iload hx hb d_Z_checkCodes_132 (lv_at hl 0 rfl) ?_
                      refine lv_iconst (v := 4) hx hb d_Z_checkCodes_134 (by decide) ?_
                      refine lv_icmp_gt (tgt := 149) hx hb d_Z_checkCodes_135 (by decide) (fun c_135 => ?_) (fun c_135 => ?_)
                      · refine lv_iconst (v := 1) hx hb d_Z_checkCodes_149 (by decide) ?_
                        refine lv_iload hx hb d_Z_checkCodes_150 (lv_at hl 6 rfl) ?_
                        refine lv_iadd hx hb d_Z_checkCodes_152 ?_
                        rw [hQ]; exact retMi (w1 := fun u : Fn => ((wZ cI cL z0 y1 y2 y3 y4 y5 y6 y7 y8 y9 y10 y11 y12 y13 y14 mn oo oa ob ss gg zz md sd u rg pp kp ot th li bl nw wr ru al sp en ke kb at0) ++ fr)) da2 hx hb hr hlocks hP hD hS (ck_w (by rw [← hF]; simp only [if_pos c_11, if_neg c_35, if_neg c_58, if_pos c_70, if_pos c_81]; exact (vcT_4 c_129 c_135).symm) (one_p hi.1 (by omega))) d_Z_checkCodes_153
                      · refine lv_iload hx hb d_Z_checkCodes_138 (lv_at hl 1 rfl) ?_
                        refine lv_bipush (v := 10) hx hb d_Z_checkCodes_140 (by decide) ?_
                        refine lv_icmp_ne (tgt := 154) hx hb d_Z_checkCodes_142 (by decide) (fun c_142 => ?_) (fun c_142 => ?_)
                        · refine lv_iload hx hb d_Z_checkCodes_154 (lv_at hl 1 rfl) ?_
                          refine lv_bipush (v := 10) hx hb d_Z_checkCodes_156 (by decide) ?_
                          refine lv_icmp_ne (tgt := 174) hx hb d_Z_checkCodes_158 (by decide) (fun c_158 => ?_) (fun c_158 => ?_)
                          · refine lv_aload_n hx hb d_Z_checkCodes_174 rfl (lv_at hl 2 rfl) ?_
                            refine va_get (ci := 5) (v := .ref y10) (C := R_Z) (T := T_Z) (N := 26) hx hb ht in_Z hown hK.1 hP 0 rfl rfl 16 (by decide) (ht _ k_fl_Z_37) (fun _ h9 => h9) rfl d_Z_checkCodes_175 ?_
                            refine lv_iload hx hb d_Z_checkCodes_178 (lv_at hl 6 rfl) ?_
                            refine lv_iload_n hx hb d_Z_checkCodes_180 rfl (lv_at hl 5 rfl) ?_
                            refine va_iast hx hb hK.1 hP hD hS 10 0 rfl rfl (in301 hi.1 (by have := i_lt c_35; have := (hzz _ (kc hk)).2; omega)) d_Z_checkCodes_181 (fun H locs hP hD hS => ?_)
                            have hP : va_P D vwCl ((wZ cI cL z0 y1 y2 y3 y4 y5 y6 y7 y8 y9 y10 y11 y12 y13 y14 mn oo oa ob ss gg zz md sd (upd da2 p1.toNatClampNeg dp) rg pp kp ot th li bl nw wr ru al sp en ke kb at0) ++ fr) H := hP
                            have hD : va_D A ((wZ cI cL z0 y1 y2 y3 y4 y5 y6 y7 y8 y9 y10 y11 y12 y13 y14 mn oo oa ob ss gg zz md sd (upd da2 p1.toNatClampNeg dp) rg pp kp ot th li bl nw wr ru al sp en ke kb at0) ++ fr) := hD
                            refine lv_iload hx hb d_Z_checkCodes_182 (lv_at hl 1 rfl) ?_
                            refine lv_bipush (v := 10) hx hb d_Z_checkCodes_184 (by decide) ?_
                            refine lv_icmp_ne (tgt := 191) hx hb d_Z_checkCodes_186 (by decide) (fun c_186 => ?_) (fun c_186 => ?_)
                            · refine lv_iload hx hb d_Z_checkCodes_191 (lv_at hl 0 rfl) ?_
                              refine lv_istore_n (lv' := [(3, .int ((dp - (ztaF (vw 300 md k p1.toNatClampNeg))) + (zpuF (vw 300 md k p1.toNatClampNeg)))), (6, .int ((dp - (ztaF (vw 300 md k p1.toNatClampNeg))) + (zpuF (vw 300 md k p1.toNatClampNeg)))), (5, .int (vw 300 md k p1.toNatClampNeg)), (0, .ref z0), (1, .int k), (2, .int (zz k.toNatClampNeg)), (4, .int p1)]) hx hb d_Z_checkCodes_193 rfl hl (by decide) rfl (fun ls hl => ?_)
                              refine lv_iload hx hb d_Z_checkCodes_194 (lv_at hl 6 rfl) ?_
                              refine lv_iload hx hb d_Z_checkCodes_196 (lv_at hl 2 rfl) ?_
                              refine goRi (va_runS (As := [.int (vw 300 md k p1.toNatClampNeg)]) (rest := [.int p1]) ⟨hx, hb, hml, hown, hts⟩ (c_Z_lengthOf l D cI cL cO (vw 300 md k p1.toNatClampNeg)) (cwS 1 hts (gBIG (m3 k_ml_Z_102 k_st_Z_lengthOf k_ini_Z) k_co_Z_lengthOf) rfl rfl rfl (by decide +kernel) ⟨Nat.le_of_ble_eq_true rfl, Nat.le_of_ble_eq_true rfl⟩) ⟨PR.bl, PR.pre P_nil hK⟩ rfl rfl hl.1 rfl (lv_room (Nat.le_of_ble_eq_true rfl)) d_Z_checkCodes_198 ⟨Nat.le_of_ble_eq_true rfl, Nat.le_of_ble_eq_true rfl⟩) ?_
                              refine lv_iadd hx hb d_Z_checkCodes_201 ?_
                              refine lv_istore (lv' := [(4, .int (p1 + (zleF (vw 300 md k p1.toNatClampNeg)))), (3, .int ((dp - (ztaF (vw 300 md k p1.toNatClampNeg))) + (zpuF (vw 300 md k p1.toNatClampNeg)))), (6, .int ((dp - (ztaF (vw 300 md k p1.toNatClampNeg))) + (zpuF (vw 300 md k p1.toNatClampNeg)))), (5, .int (vw 300 md k p1.toNatClampNeg)), (0, .ref z0), (1, .int k), (2, .int (zz k.toNatClampNeg))]) hx hb d_Z_checkCodes_202 hl (by decide) rfl (fun ls hl => ?_)
                              refine lv_goto (tgt := 32) hx hb d_Z_checkCodes_204 (by decide) ?_
                              exact ih ((dp - (ztaF (vw 300 md k p1.toNatClampNeg))) + (zpuF (vw 300 md k p1.toNatClampNeg))) (p1 + (zleF (vw 300 md k p1.toNatClampNeg))) (upd da2 p1.toNatClampNeg dp) (upd d1 p1.toNatClampNeg dp) _ _ ls (by have := (le_n (c := vw 300 md k p1.toNatClampNeg) hi.1 (i_lt c_35) (hzz _ (kc hk)).2 c_58); omega) (by have := (le_n (c := vw 300 md k p1.toNatClampNeg) hi.1 (i_lt c_35) (hzz _ (kc hk)).2 c_58); have := i_lt c_35; have := (hzz _ (kc hk)).2; omega) (dp_n hdp c_129 c_135) (by rw [← hF]; simp only [vcT, if_pos c_11, if_neg c_35, if_neg c_58, if_pos c_70, if_pos c_81, if_neg c_129, if_neg c_135, if_neg c_142]) (upd_ag hd) hP hD hS (lv_sub hl [4, 5, 6, 1, 0] rfl)
                            · exact absurd c_186 c_142
                          · exact absurd c_158 c_142
                        · refine lv_iload_n hx hb d_Z_checkCodes_145 rfl (lv_at hl 5 rfl) ?_
                          refine lv_if_eq (tgt := 154) hx hb d_Z_checkCodes_146 (by decide) (fun c_146 => ?_) (fun c_146 => ?_)
                          · refine lv_iload hx hb d_Z_checkCodes_154 (lv_at hl 1 rfl) ?_
                            refine lv_bipush (v := 10) hx hb d_Z_checkCodes_156 (by decide) ?_
                            refine lv_icmp_ne (tgt := 174) hx hb d_Z_checkCodes_158 (by decide) (fun c_158 => ?_) (fun c_158 => ?_)
                            · exact absurd c_142 c_158
                            · refine lv_iload hx hb d_Z_checkCodes_161 (lv_at hl 6 rfl) ?_
                              refine lv_iconst (v := 1) hx hb d_Z_checkCodes_163 (by decide) ?_
                              refine lv_iadd hx hb d_Z_checkCodes_164 ?_
                              refine lv_iload_n hx hb d_Z_checkCodes_165 rfl (lv_at hl 4 rfl) ?_
                              refine lv_icmp_ge (tgt := 174) hx hb d_Z_checkCodes_166 (by decide) (fun c_166 => ?_) (fun c_166 => ?_)
                              · refine lv_aload_n hx hb d_Z_checkCodes_174 rfl (lv_at hl 2 rfl) ?_
                                refine va_get (ci := 5) (v := .ref y10) (C := R_Z) (T := T_Z) (N := 26) hx hb ht in_Z hown hK.1 hP 0 rfl rfl 16 (by decide) (ht _ k_fl_Z_37) (fun _ h9 => h9) rfl d_Z_checkCodes_175 ?_
                                refine lv_iload hx hb d_Z_checkCodes_178 (lv_at hl 6 rfl) ?_
                                refine lv_iload_n hx hb d_Z_checkCodes_180 rfl (lv_at hl 5 rfl) ?_
                                refine va_iast hx hb hK.1 hP hD hS 10 0 rfl rfl (in301 hi.1 (by have := i_lt c_35; have := (hzz _ (kc hk)).2; omega)) d_Z_checkCodes_181 (fun H locs hP hD hS => ?_)
                                have hP : va_P D vwCl ((wZ cI cL z0 y1 y2 y3 y4 y5 y6 y7 y8 y9 y10 y11 y12 y13 y14 mn oo oa ob ss gg zz md sd (upd da2 p1.toNatClampNeg dp) rg pp kp ot th li bl nw wr ru al sp en ke kb at0) ++ fr) H := hP
                                have hD : va_D A ((wZ cI cL z0 y1 y2 y3 y4 y5 y6 y7 y8 y9 y10 y11 y12 y13 y14 mn oo oa ob ss gg zz md sd (upd da2 p1.toNatClampNeg dp) rg pp kp ot th li bl nw wr ru al sp en ke kb at0) ++ fr) := hD
                                refine lv_iload hx hb d_Z_checkCodes_182 (lv_at hl 1 rfl) ?_
                                refine lv_bipush (v := 10) hx hb d_Z_checkCodes_184 (by decide) ?_
                                refine lv_icmp_ne (tgt := 191) hx hb d_Z_checkCodes_186 (by decide) (fun c_186 => ?_) (fun c_186 => ?_)
                                · exact absurd c_142 c_186
                                · refine lv_iconst (v := 0) hx hb d_Z_checkCodes_189 (by decide) ?_
                                  rw [hQ]; exact retMi (w1 := fun u : Fn => ((wZ cI cL z0 y1 y2 y3 y4 y5 y6 y7 y8 y9 y10 y11 y12 y13 y14 mn oo oa ob ss gg zz md sd u rg pp kp ot th li bl nw wr ru al sp en ke kb at0) ++ fr)) (upd da2 p1.toNatClampNeg dp) hx hb hr hlocks hP hD hS ⟨by rw [← hF]; simp only [vcT, if_pos c_11, if_neg c_35, if_neg c_58, if_pos c_70, if_pos c_81, if_neg c_129, if_neg c_135, if_pos c_142, if_pos c_146, if_pos c_166], fun _ => by rw [← hF]; simp only [vcT, if_pos c_11, if_neg c_35, if_neg c_58, if_pos c_70, if_pos c_81, if_neg c_129, if_neg c_135, if_pos c_142, if_pos c_146, if_pos c_166]; exact upd_ag hd⟩ d_Z_checkCodes_190
                              · refine lv_iconst (v := 2) hx hb d_Z_checkCodes_169 (by decide) ?_
                                refine lv_iload hx hb d_Z_checkCodes_170 (lv_at hl 6 rfl) ?_
                                refine lv_iadd hx hb d_Z_checkCodes_172 ?_
                                rw [hQ]; exact retMi (w1 := fun u : Fn => ((wZ cI cL z0 y1 y2 y3 y4 y5 y6 y7 y8 y9 y10 y11 y12 y13 y14 mn oo oa ob ss gg zz md sd u rg pp kp ot th li bl nw wr ru al sp en ke kb at0) ++ fr)) da2 hx hb hr hlocks hP hD hS (ck_w (by rw [← hF]; simp only [vcT, if_pos c_11, if_neg c_35, if_neg c_58, if_pos c_70, if_pos c_81, if_neg c_129, if_neg c_135, if_pos c_142, if_pos c_146, if_neg c_166]; exact two_p _) (by rw [two_p]; exact one_p (by rw [i32_1 (by omega)]; omega) (by rw [i32_1 (by omega)]; omega))) d_Z_checkCodes_173
                          · refine lv_iconst (v := 1) hx hb d_Z_checkCodes_149 (by decide) ?_
                            refine lv_iload hx hb d_Z_checkCodes_150 (lv_at hl 6 rfl) ?_
                            refine lv_iadd hx hb d_Z_checkCodes_152 ?_
                            rw [hQ]; exact retMi (w1 := fun u : Fn => ((wZ cI cL z0 y1 y2 y3 y4 y5 y6 y7 y8 y9 y10 y11 y12 y13 y14 mn oo oa ob ss gg zz md sd u rg pp kp ot th li bl nw wr ru al sp en ke kb at0) ++ fr)) da2 hx hb hr hlocks hP hD hS (ck_w (by rw [← hF]; simp only [vcT, if_pos c_11, if_neg c_35, if_neg c_58, if_pos c_70, if_pos c_81, if_neg c_129, if_neg c_135, if_pos c_142, if_neg c_146]) (one_p hi.1 (by omega))) d_Z_checkCodes_153
                  · refine lv_aload_n hx hb d_Z_checkCodes_84 rfl (lv_at hl 1 rfl) ?_
                    refine va_get (ci := 5) (v := .ref y8) (C := R_Z) (T := T_Z) (N := 26) hx hb ht in_Z hown hK.1 hP 0 rfl rfl 14 (by decide) (ht _ k_fl_Z_31) (fun _ h9 => h9) rfl d_Z_checkCodes_85 ?_
                    refine lv_sipush (v := 300) hx hb d_Z_checkCodes_88 (by decide) ?_
                    refine lv_iload_n hx hb d_Z_checkCodes_91 rfl (lv_at hl 2 rfl) ?_
                    refine lv_imul hx hb d_Z_checkCodes_92 ?_
                    refine lv_iload hx hb d_Z_checkCodes_93 (lv_at hl 5 rfl) ?_
                    refine lv_iadd hx hb d_Z_checkCodes_95 ?_
                    refine lv_iconst (v := 1) hx hb d_Z_checkCodes_96 (by decide) ?_
                    refine lv_iadd hx hb d_Z_checkCodes_97 ?_
                    refine va_iald hx hb hK.1 hP 8 0 rfl rfl (in300_1 hk (p1_lt hi.1 c_35 (hzz _ (kc hk)).2 c_58 c_81 c_70)) d_Z_checkCodes_98 ?_
                    rw [show md (((300 * k) + p1) + 1).toNatClampNeg = vw 300 md k (p1 + 1).toNatClampNeg from (vw300_1 hk (p1_lt hi.1 c_35 (hzz _ (kc hk)).2 c_58 c_81 c_70))]
                    refine lv_iconst (v := 3) hx hb d_Z_checkCodes_99 (by decide) ?_
                    refine lv_icmp_le (tgt := 108) hx hb d_Z_checkCodes_100 (by decide) (fun c_100 => ?_) (fun c_100 => ?_)
                    · refine lv_iload_n hx hb d_Z_checkCodes_108 rfl (lv_at hl 4 rfl) ?_
                      refine lv_iload hx hb d_Z_checkCodes_109 (lv_at hl 0 rfl) ?_
                      refine goRi (va_runS (As := [.int (vw 300 md k p1.toNatClampNeg)]) (rest := [.int dp]) ⟨hx, hb, hml, hown, hts⟩ (c_Z_takes l D cI cL cO (vw 300 md k p1.toNatClampNeg)) (cwS 1 hts (gBIG (m3 k_ml_Z_105 k_st_Z_takes k_ini_Z) k_co_Z_takes) rfl rfl rfl (by decide +kernel) ⟨Nat.le_of_ble_eq_true rfl, Nat.le_of_ble_eq_true rfl⟩) ⟨PR.bl, PR.pre P_nil hK⟩ rfl rfl hl.1 rfl (lv_room (Nat.le_of_ble_eq_true rfl)) d_Z_checkCodes_111 ⟨Nat.le_of_ble_eq_true rfl, Nat.le_of_ble_eq_true rfl⟩) ?_
                      refine lv_isub hx hb d_Z_checkCodes_114 ?_
                      refine lv_iload hx hb d_Z_checkCodes_115 (lv_at hl 0 rfl) ?_
                      refine goRi (va_runS (As := [.int (vw 300 md k p1.toNatClampNeg)]) (rest := [.int (dp - (ztaF (vw 300 md k p1.toNatClampNeg)))]) ⟨hx, hb, hml, hown, hts⟩ (c_Z_puts l D cI cL cO (vw 300 md k p1.toNatClampNeg)) (cwS 1 hts (gBIG (m3 k_ml_Z_108 k_st_Z_puts k_ini_Z) k_co_Z_puts) rfl rfl rfl (by decide +kernel) ⟨Nat.le_of_ble_eq_true rfl, Nat.le_of_ble_eq_true rfl⟩) ⟨PR.bl, PR.pre P_nil hK⟩ rfl rfl hl.1 rfl (lv_room (Nat.le_of_ble_eq_true rfl)) d_Z_checkCodes_117 ⟨Nat.le_of_ble_eq_true rfl, Nat.le_of_ble_eq_true rfl⟩) ?_
                      refine lv_iadd hx hb d_Z_checkCodes_120 ?_
                      refine lv_istore (lv' := [(6, .int ((dp - (ztaF (vw 300 md k p1.toNatClampNeg))) + (zpuF (vw 300 md k p1.toNatClampNeg)))), (5, .int (vw 300 md k p1.toNatClampNeg)), (0, .ref z0), (1, .int k), (2, .int (zz k.toNatClampNeg)), (3, .int dp), (4, .int p1)]) hx hb d_Z_checkCodes_121 hl (by decide) rfl (fun ls hl => ?_)
                      refine lv_iload_n hx hb d_Z_checkCodes_123 rfl (lv_at hl 5 rfl) ?_
                      refine lv_iload hx hb d_Z_checkCodes_124 (lv_at hl 1 rfl) ?_
                      refine goRi (va_runS (As := [.int (vw 300 md k p1.toNatClampNeg)]) (rest := [.int dp]) ⟨hx, hb, hml, hown, hts⟩ (c_Z_takes l D cI cL cO (vw 300 md k p1.toNatClampNeg)) (cwS 1 hts (gBIG (m3 k_ml_Z_105 k_st_Z_takes k_ini_Z) k_co_Z_takes) rfl rfl rfl (by decide +kernel) ⟨Nat.le_of_ble_eq_true rfl, Nat.le_of_ble_eq_true rfl⟩) ⟨PR.bl, PR.pre P_nil hK⟩ rfl rfl hl.1 rfl (lv_room (Nat.le_of_ble_eq_true rfl)) d_Z_checkCodes_126 ⟨Nat.le_of_ble_eq_true rfl, Nat.le_of_ble_eq_true rfl⟩) ?_
                      refine lv_icmp_lt (tgt := 149) hx hb d_Z_checkCodes_129 (by decide) (fun c_129 => ?_) (fun c_129 => ?_)
                      · refine lv_iconst (v := 1) hx hb d_Z_checkCodes_149 (by decide) ?_
                        refine lv_iload hx hb d_Z_checkCodes_150 (lv_at hl 6 rfl) ?_
                        refine lv_iadd hx hb d_Z_checkCodes_152 ?_
                        rw [hQ]; exact retMi (w1 := fun u : Fn => ((wZ cI cL z0 y1 y2 y3 y4 y5 y6 y7 y8 y9 y10 y11 y12 y13 y14 mn oo oa ob ss gg zz md sd u rg pp kp ot th li bl nw wr ru al sp en ke kb at0) ++ fr)) da2 hx hb hr hlocks hP hD hS (ck_w (by rw [← hF]; simp only [vcT, if_pos c_11, if_neg c_35, if_neg c_58, if_pos c_70, if_neg c_81, if_pos c_100, if_pos c_129]) (one_p hi.1 (by omega))) d_Z_checkCodes_153
                      · refine lv_iload hx hb d_Z_checkCodes_132 (lv_at hl 0 rfl) ?_
                        refine lv_iconst (v := 4) hx hb d_Z_checkCodes_134 (by decide) ?_
                        refine lv_icmp_gt (tgt := 149) hx hb d_Z_checkCodes_135 (by decide) (fun c_135 => ?_) (fun c_135 => ?_)
                        · refine lv_iconst (v := 1) hx hb d_Z_checkCodes_149 (by decide) ?_
                          refine lv_iload hx hb d_Z_checkCodes_150 (lv_at hl 6 rfl) ?_
                          refine lv_iadd hx hb d_Z_checkCodes_152 ?_
                          rw [hQ]; exact retMi (w1 := fun u : Fn => ((wZ cI cL z0 y1 y2 y3 y4 y5 y6 y7 y8 y9 y10 y11 y12 y13 y14 mn oo oa ob ss gg zz md sd u rg pp kp ot th li bl nw wr ru al sp en ke kb at0) ++ fr)) da2 hx hb hr hlocks hP hD hS (ck_w (by rw [← hF]; simp only [if_pos c_11, if_neg c_35, if_neg c_58, if_pos c_70, if_neg c_81, if_pos c_100]; exact (vcT_4 c_129 c_135).symm) (one_p hi.1 (by omega))) d_Z_checkCodes_153
                        · refine lv_iload hx hb d_Z_checkCodes_138 (lv_at hl 1 rfl) ?_
                          refine lv_bipush (v := 10) hx hb d_Z_checkCodes_140 (by decide) ?_
                          refine lv_icmp_ne (tgt := 154) hx hb d_Z_checkCodes_142 (by decide) (fun c_142 => ?_) (fun c_142 => ?_)
                          · refine lv_iload hx hb d_Z_checkCodes_154 (lv_at hl 1 rfl) ?_
                            refine lv_bipush (v := 10) hx hb d_Z_checkCodes_156 (by decide) ?_
                            refine lv_icmp_ne (tgt := 174) hx hb d_Z_checkCodes_158 (by decide) (fun c_158 => ?_) (fun c_158 => ?_)
                            · refine lv_aload_n hx hb d_Z_checkCodes_174 rfl (lv_at hl 2 rfl) ?_
                              refine va_get (ci := 5) (v := .ref y10) (C := R_Z) (T := T_Z) (N := 26) hx hb ht in_Z hown hK.1 hP 0 rfl rfl 16 (by decide) (ht _ k_fl_Z_37) (fun _ h9 => h9) rfl d_Z_checkCodes_175 ?_
                              refine lv_iload hx hb d_Z_checkCodes_178 (lv_at hl 6 rfl) ?_
                              refine lv_iload_n hx hb d_Z_checkCodes_180 rfl (lv_at hl 5 rfl) ?_
                              refine va_iast hx hb hK.1 hP hD hS 10 0 rfl rfl (in301 hi.1 (by have := i_lt c_35; have := (hzz _ (kc hk)).2; omega)) d_Z_checkCodes_181 (fun H locs hP hD hS => ?_)
                              have hP : va_P D vwCl ((wZ cI cL z0 y1 y2 y3 y4 y5 y6 y7 y8 y9 y10 y11 y12 y13 y14 mn oo oa ob ss gg zz md sd (upd da2 p1.toNatClampNeg dp) rg pp kp ot th li bl nw wr ru al sp en ke kb at0) ++ fr) H := hP
                              have hD : va_D A ((wZ cI cL z0 y1 y2 y3 y4 y5 y6 y7 y8 y9 y10 y11 y12 y13 y14 mn oo oa ob ss gg zz md sd (upd da2 p1.toNatClampNeg dp) rg pp kp ot th li bl nw wr ru al sp en ke kb at0) ++ fr) := hD
                              refine lv_iload hx hb d_Z_checkCodes_182 (lv_at hl 1 rfl) ?_
                              refine lv_bipush (v := 10) hx hb d_Z_checkCodes_184 (by decide) ?_
                              refine lv_icmp_ne (tgt := 191) hx hb d_Z_checkCodes_186 (by decide) (fun c_186 => ?_) (fun c_186 => ?_)
                              · refine lv_iload hx hb d_Z_checkCodes_191 (lv_at hl 0 rfl) ?_
                                refine lv_istore_n (lv' := [(3, .int ((dp - (ztaF (vw 300 md k p1.toNatClampNeg))) + (zpuF (vw 300 md k p1.toNatClampNeg)))), (6, .int ((dp - (ztaF (vw 300 md k p1.toNatClampNeg))) + (zpuF (vw 300 md k p1.toNatClampNeg)))), (5, .int (vw 300 md k p1.toNatClampNeg)), (0, .ref z0), (1, .int k), (2, .int (zz k.toNatClampNeg)), (4, .int p1)]) hx hb d_Z_checkCodes_193 rfl hl (by decide) rfl (fun ls hl => ?_)
                                refine lv_iload hx hb d_Z_checkCodes_194 (lv_at hl 6 rfl) ?_
                                refine lv_iload hx hb d_Z_checkCodes_196 (lv_at hl 2 rfl) ?_
                                refine goRi (va_runS (As := [.int (vw 300 md k p1.toNatClampNeg)]) (rest := [.int p1]) ⟨hx, hb, hml, hown, hts⟩ (c_Z_lengthOf l D cI cL cO (vw 300 md k p1.toNatClampNeg)) (cwS 1 hts (gBIG (m3 k_ml_Z_102 k_st_Z_lengthOf k_ini_Z) k_co_Z_lengthOf) rfl rfl rfl (by decide +kernel) ⟨Nat.le_of_ble_eq_true rfl, Nat.le_of_ble_eq_true rfl⟩) ⟨PR.bl, PR.pre P_nil hK⟩ rfl rfl hl.1 rfl (lv_room (Nat.le_of_ble_eq_true rfl)) d_Z_checkCodes_198 ⟨Nat.le_of_ble_eq_true rfl, Nat.le_of_ble_eq_true rfl⟩) ?_
                                refine lv_iadd hx hb d_Z_checkCodes_201 ?_
                                refine lv_istore (lv' := [(4, .int (p1 + (zleF (vw 300 md k p1.toNatClampNeg)))), (3, .int ((dp - (ztaF (vw 300 md k p1.toNatClampNeg))) + (zpuF (vw 300 md k p1.toNatClampNeg)))), (6, .int ((dp - (ztaF (vw 300 md k p1.toNatClampNeg))) + (zpuF (vw 300 md k p1.toNatClampNeg)))), (5, .int (vw 300 md k p1.toNatClampNeg)), (0, .ref z0), (1, .int k), (2, .int (zz k.toNatClampNeg))]) hx hb d_Z_checkCodes_202 hl (by decide) rfl (fun ls hl => ?_)
                                refine lv_goto (tgt := 32) hx hb d_Z_checkCodes_204 (by decide) ?_
                                exact ih ((dp - (ztaF (vw 300 md k p1.toNatClampNeg))) + (zpuF (vw 300 md k p1.toNatClampNeg))) (p1 + (zleF (vw 300 md k p1.toNatClampNeg))) (upd da2 p1.toNatClampNeg dp) (upd d1 p1.toNatClampNeg dp) _ _ ls (by have := (le_n (c := vw 300 md k p1.toNatClampNeg) hi.1 (i_lt c_35) (hzz _ (kc hk)).2 c_58); omega) (by have := (le_n (c := vw 300 md k p1.toNatClampNeg) hi.1 (i_lt c_35) (hzz _ (kc hk)).2 c_58); have := i_lt c_35; have := (hzz _ (kc hk)).2; omega) (dp_n hdp c_129 c_135) (by rw [← hF]; simp only [vcT, if_pos c_11, if_neg c_35, if_neg c_58, if_pos c_70, if_neg c_81, if_pos c_100, if_neg c_129, if_neg c_135, if_neg c_142]) (upd_ag hd) hP hD hS (lv_sub hl [4, 5, 6, 1, 0] rfl)
                              · exact absurd c_186 c_142
                            · exact absurd c_158 c_142
                          · refine lv_iload_n hx hb d_Z_checkCodes_145 rfl (lv_at hl 5 rfl) ?_
                            refine lv_if_eq (tgt := 154) hx hb d_Z_checkCodes_146 (by decide) (fun c_146 => ?_) (fun c_146 => ?_)
                            · refine lv_iload hx hb d_Z_checkCodes_154 (lv_at hl 1 rfl) ?_
                              refine lv_bipush (v := 10) hx hb d_Z_checkCodes_156 (by decide) ?_
                              refine lv_icmp_ne (tgt := 174) hx hb d_Z_checkCodes_158 (by decide) (fun c_158 => ?_) (fun c_158 => ?_)
                              · exact absurd c_142 c_158
                              · refine lv_iload hx hb d_Z_checkCodes_161 (lv_at hl 6 rfl) ?_
                                refine lv_iconst (v := 1) hx hb d_Z_checkCodes_163 (by decide) ?_
                                refine lv_iadd hx hb d_Z_checkCodes_164 ?_
                                refine lv_iload_n hx hb d_Z_checkCodes_165 rfl (lv_at hl 4 rfl) ?_
                                refine lv_icmp_ge (tgt := 174) hx hb d_Z_checkCodes_166 (by decide) (fun c_166 => ?_) (fun c_166 => ?_)
                                · refine lv_aload_n hx hb d_Z_checkCodes_174 rfl (lv_at hl 2 rfl) ?_
                                  refine va_get (ci := 5) (v := .ref y10) (C := R_Z) (T := T_Z) (N := 26) hx hb ht in_Z hown hK.1 hP 0 rfl rfl 16 (by decide) (ht _ k_fl_Z_37) (fun _ h9 => h9) rfl d_Z_checkCodes_175 ?_
                                  refine lv_iload hx hb d_Z_checkCodes_178 (lv_at hl 6 rfl) ?_
                                  refine lv_iload_n hx hb d_Z_checkCodes_180 rfl (lv_at hl 5 rfl) ?_
                                  refine va_iast hx hb hK.1 hP hD hS 10 0 rfl rfl (in301 hi.1 (by have := i_lt c_35; have := (hzz _ (kc hk)).2; omega)) d_Z_checkCodes_181 (fun H locs hP hD hS => ?_)
                                  have hP : va_P D vwCl ((wZ cI cL z0 y1 y2 y3 y4 y5 y6 y7 y8 y9 y10 y11 y12 y13 y14 mn oo oa ob ss gg zz md sd (upd da2 p1.toNatClampNeg dp) rg pp kp ot th li bl nw wr ru al sp en ke kb at0) ++ fr) H := hP
                                  have hD : va_D A ((wZ cI cL z0 y1 y2 y3 y4 y5 y6 y7 y8 y9 y10 y11 y12 y13 y14 mn oo oa ob ss gg zz md sd (upd da2 p1.toNatClampNeg dp) rg pp kp ot th li bl nw wr ru al sp en ke kb at0) ++ fr) := hD
                                  refine lv_iload hx hb d_Z_checkCodes_182 (lv_at hl 1 rfl) ?_
                                  refine lv_bipush (v := 10) hx hb d_Z_checkCodes_184 (by decide) ?_
                                  refine lv_icmp_ne (tgt := 191) hx hb d_Z_checkCodes_186 (by decide) (fun c_186 => ?_) (fun c_186 => ?_)
                                  · exact absurd c_142 c_186
                                  · refine lv_iconst (v := 0) hx hb d_Z_checkCodes_189 (by decide) ?_
                                    rw [hQ]; exact retMi (w1 := fun u : Fn => ((wZ cI cL z0 y1 y2 y3 y4 y5 y6 y7 y8 y9 y10 y11 y12 y13 y14 mn oo oa ob ss gg zz md sd u rg pp kp ot th li bl nw wr ru al sp en ke kb at0) ++ fr)) (upd da2 p1.toNatClampNeg dp) hx hb hr hlocks hP hD hS ⟨by rw [← hF]; simp only [vcT, if_pos c_11, if_neg c_35, if_neg c_58, if_pos c_70, if_neg c_81, if_pos c_100, if_neg c_129, if_neg c_135, if_pos c_142, if_pos c_146, if_pos c_166], fun _ => by rw [← hF]; simp only [vcT, if_pos c_11, if_neg c_35, if_neg c_58, if_pos c_70, if_neg c_81, if_pos c_100, if_neg c_129, if_neg c_135, if_pos c_142, if_pos c_146, if_pos c_166]; exact upd_ag hd⟩ d_Z_checkCodes_190
                                · refine lv_iconst (v := 2) hx hb d_Z_checkCodes_169 (by decide) ?_
                                  refine lv_iload hx hb d_Z_checkCodes_170 (lv_at hl 6 rfl) ?_
                                  refine lv_iadd hx hb d_Z_checkCodes_172 ?_
                                  rw [hQ]; exact retMi (w1 := fun u : Fn => ((wZ cI cL z0 y1 y2 y3 y4 y5 y6 y7 y8 y9 y10 y11 y12 y13 y14 mn oo oa ob ss gg zz md sd u rg pp kp ot th li bl nw wr ru al sp en ke kb at0) ++ fr)) da2 hx hb hr hlocks hP hD hS (ck_w (by rw [← hF]; simp only [vcT, if_pos c_11, if_neg c_35, if_neg c_58, if_pos c_70, if_neg c_81, if_pos c_100, if_neg c_129, if_neg c_135, if_pos c_142, if_pos c_146, if_neg c_166]; exact two_p _) (by rw [two_p]; exact one_p (by rw [i32_1 (by omega)]; omega) (by rw [i32_1 (by omega)]; omega))) d_Z_checkCodes_173
                            · refine lv_iconst (v := 1) hx hb d_Z_checkCodes_149 (by decide) ?_
                              refine lv_iload hx hb d_Z_checkCodes_150 (lv_at hl 6 rfl) ?_
                              refine lv_iadd hx hb d_Z_checkCodes_152 ?_
                              rw [hQ]; exact retMi (w1 := fun u : Fn => ((wZ cI cL z0 y1 y2 y3 y4 y5 y6 y7 y8 y9 y10 y11 y12 y13 y14 mn oo oa ob ss gg zz md sd u rg pp kp ot th li bl nw wr ru al sp en ke kb at0) ++ fr)) da2 hx hb hr hlocks hP hD hS (ck_w (by rw [← hF]; simp only [vcT, if_pos c_11, if_neg c_35, if_neg c_58, if_pos c_70, if_neg c_81, if_pos c_100, if_neg c_129, if_neg c_135, if_pos c_142, if_neg c_146]) (one_p hi.1 (by omega))) d_Z_checkCodes_153
                    · refine lv_iconst (v := 1) hx hb d_Z_checkCodes_103 (by decide) ?_
                      refine lv_iload hx hb d_Z_checkCodes_104 (lv_at hl 5 rfl) ?_
                      refine lv_iadd hx hb d_Z_checkCodes_106 ?_
                      rw [hQ]; exact retMi (w1 := fun u : Fn => ((wZ cI cL z0 y1 y2 y3 y4 y5 y6 y7 y8 y9 y10 y11 y12 y13 y14 mn oo oa ob ss gg zz md sd u rg pp kp ot th li bl nw wr ru al sp en ke kb at0) ++ fr)) da2 hx hb hr hlocks hP hD hS (ck_w (by rw [← hF]; simp only [if_pos c_11, if_neg c_35, if_neg c_58, if_pos c_70, if_neg c_81, if_neg c_100]) (one_p hi.1 (by omega))) d_Z_checkCodes_107
                · refine lv_iconst (v := 1) hx hb d_Z_checkCodes_73 (by decide) ?_
                  refine lv_iload hx hb d_Z_checkCodes_74 (lv_at hl 5 rfl) ?_
                  refine lv_iadd hx hb d_Z_checkCodes_76 ?_
                  rw [hQ]; exact retMi (w1 := fun u : Fn => ((wZ cI cL z0 y1 y2 y3 y4 y5 y6 y7 y8 y9 y10 y11 y12 y13 y14 mn oo oa ob ss gg zz md sd u rg pp kp ot th li bl nw wr ru al sp en ke kb at0) ++ fr)) da2 hx hb hr hlocks hP hD hS (ck_w (by rw [← hF]; simp only [if_pos c_11, if_neg c_35, if_neg c_58, if_neg c_70]) (one_p hi.1 (by omega))) d_Z_checkCodes_77
        exact lp 305 0 0 da1 (fun _ => -1) _ _ ls (by decide) (by decide) (by decide) rfl (fun j hj => hf j (by have := i_plt c_11; omega)) hP hD hS (lv_sub hl [2, 3, 4, 1, 0] rfl)
      · refine lv_aload_n hx hb d_Z_checkCodes_14 rfl (lv_at hl 0 rfl) ?_
        refine va_get (ci := 5) (v := .ref y10) (C := R_Z) (T := T_Z) (N := 26) hx hb ht in_Z hown hK.1 hP 0 rfl rfl 16 (by decide) (ht _ k_fl_Z_37) (fun _ h9 => h9) rfl d_Z_checkCodes_15 ?_
        refine lv_iload_n hx hb d_Z_checkCodes_18 rfl (lv_at hl 3 rfl) ?_
        refine lv_iconst (v := (-1)) hx hb d_Z_checkCodes_19 (by decide) ?_
        refine va_iast hx hb hK.1 hP hD hS 10 0 rfl rfl (in301 hi.1 (by have := i_nlt c_11; have := (hzz _ (kc hk)).2; omega)) d_Z_checkCodes_20 (fun H locs hP hD hS => ?_)
        have hP : va_P D vwCl ((wZ cI cL z0 y1 y2 y3 y4 y5 y6 y7 y8 y9 y10 y11 y12 y13 y14 mn oo oa ob ss gg zz md sd (upd da1 i.toNatClampNeg (-1)) rg pp kp ot th li bl nw wr ru al sp en ke kb at0) ++ fr) H := hP
        have hD : va_D A ((wZ cI cL z0 y1 y2 y3 y4 y5 y6 y7 y8 y9 y10 y11 y12 y13 y14 mn oo oa ob ss gg zz md sd (upd da1 i.toNatClampNeg (-1)) rg pp kp ot th li bl nw wr ru al sp en ke kb at0) ++ fr) := hD
        refine lv_iinc (v := i + 1) (lv' := [(3, .int (i + 1)), (0, .ref z0), (1, .int k), (2, .int (zz k.toNatClampNeg))]) hx hb d_Z_checkCodes_21 hl (k := 3) rfl rfl (by decide) rfl (fun ls hl => ?_)
        refine lv_goto (tgt := 9) hx hb d_Z_checkCodes_24 (by decide) ?_
        exact ih (i + 1) (upd da1 i.toNatClampNeg (-1)) _ _ ls (by rw [i32_1 (by omega)]; omega) (by rw [i32_1 (by omega)]; have := i_nlt c_11; have := (hzz _ (kc hk)).2; omega) (fill_s hi.1 (by omega) hf) hP hD hS (lv_sub hl [1, 2, 3, 0] rfl)
  exact lp 302 0 da _ _ ls (by decide) (by decide) (fun j hj => absurd hj (by simp)) hP hD hS (lv_sub hl [2, 3, 1, 0] rfl)
