abbrev w_U_followRows : List Cond := .code y_U_followRows b_U_followRows 11 none :: BIG
set_option maxHeartbeats 4000000 in
set_option maxRecDepth 100000 in
theorem c_U_followRows (l : Launch) (D : va_G) (cI cL cO : ClassId) (u0 : Nat) (u1 : Nat) (u2 : Nat) (hg : Int32) (sp : Int32) (en : Int32) (bb : Int32) (g : FL) (h0 : Nat) (q1 : Nat) (q2 : Nat) (q3 : Nat) (q4 : Nat) (q5 : Nat) (o : Fn) (f : Fn) (ee : Fn) (t : Fn) (b : Fn) (ic : Int32) (bc : Int32) (sa : Int32) (gn : Int32) (fr : va_W) (x : Int64) (y : Int64) (hic : ¬ ic < 0) : CMv l y_U_followRows w_U_followRows ({ frames := 3, cells := 0, slots := 0, locals := 64 }) D cI cL cO [.ref u0, .ref h0, .long x, .long y] ((wU u0 u1 u2 hg sp en bb) ++ ((wL4 cL u1 g) ++ ((wB cI h0 q1 q2 q3 q4 q5 o f ee t b ic bc sa gn) ++ fr))) (fun u : FL × Int32 × Int32 × Int32 × Int32 => (u.1, u.2.2.1, u.2.2.2.1) = roF o f ee ic x y ∧ u.2.1 = 0 ∧ u.2.2.2.2 = 0) (fun u : FL × Int32 × Int32 × Int32 × Int32 => ((wU u0 u1 u2 u.2.1 u.2.2.1 u.2.2.2.1 u.2.2.2.2) ++ ((wL4 cL u1 u.1) ++ ((wB cI h0 q1 q2 q3 q4 q5 o f ee t b ic bc sa gn) ++ fr)))) 0 0 := by
  refine ofMv (cc := b_U_followRows) (maxL := 11) (ret := none) (by decide) rfl (Nat.le_of_ble_eq_true rfl) ?_
  intro p e s m below meth c A ls H Q hQ hx hb hr hlocks hin hts hown hml hP hK hD hS hA hl
  have hl : lv_has ls 11 [(0, .ref u0), (1, .ref h0), (2, .long x), (4, .long y)] := hl
  have hown : s.vm.findClass R_U = some m.cls := hown
  have ht : ∀ w ∈ BIG, w.before _ s = true := fun w h => hts w (List.mem_cons_of_mem _ h)
  refine lv_aload_n hx hb d_U_followRows_0 rfl (lv_at hl 0 rfl) ?_
  refine lv_lload_n hx hb d_U_followRows_1 rfl (lv_at hl 2 rfl) ?_
  refine lv_lload hx hb d_U_followRows_2 (lv_at hl 3 rfl) ?_
  refine lv_iconst (v := 0) hx hb d_U_followRows_4 (by decide) ?_
  refine goMv (va_runV (As := [.long x, .long y, .int 0]) (rest := []) ⟨hx, hb, hml, hown, hts⟩ (c_U_begin l D cI cL cO u0 u1 u2 hg sp en bb g ((wB cI h0 q1 q2 q3 q4 q5 o f ee t b ic bc sa gn) ++ fr) x y 0 rfl rfl H.size) (cwV 3 hts (gBIG (m4 k_ml_U_38 k_im_U_begin k_sel_U_begin k_ini_U) k_co_U_begin) rfl rfl rfl (by decide +kernel) ⟨Nat.le_of_ble_eq_true rfl, Nat.le_of_ble_eq_true rfl⟩) ⟨PM.bl, va_recv hK.1 hP (ci := 2) (q0 := 0) rfl rfl, PM.pre hP hD hK⟩ rfl rfl hl.1 rfl (lv_room (Nat.le_of_ble_eq_true rfl)) d_U_followRows_5 ⟨Nat.le_of_ble_eq_true rfl, Nat.le_of_ble_eq_true rfl⟩) hD hS hA (fun u H locs hw hP hD hS => ?_)
  obtain ⟨g_5, hg_5, sp_5, en_5, bb_5⟩ := u
  have e_5 : (g_5, hg_5, sp_5, en_5, bb_5) = (begR x y, 0, 0, 0, 0) := hw
  have hP : va_P D vwCl ((wU u0 u1 u2 hg_5 sp_5 en_5 bb_5) ++ ((wL4 cL u1 g_5) ++ ((wB cI h0 q1 q2 q3 q4 q5 o f ee t b ic bc sa gn) ++ fr))) H := hP
  have hD : va_D A ((wU u0 u1 u2 hg_5 sp_5 en_5 bb_5) ++ ((wL4 cL u1 g_5) ++ ((wB cI h0 q1 q2 q3 q4 q5 o f ee t b ic bc sa gn) ++ fr))) := hD
  obtain ⟨eg, eh, es9, ee9, eb⟩ : g_5 = begR x y ∧ hg_5 = 0 ∧ sp_5 = 0 ∧ en_5 = 0 ∧ bb_5 = 0 := by simpa only [Prod.mk.injEq] using e_5
  refine lv_aload_n hx hb d_U_followRows_8 rfl (lv_at hl 1 rfl) ?_
  refine va_getN (ci := 0) (v := .int ic) (C := R_B) (T := T_B) (N := 9) hx hb ht in_B hown hK.1 hP 2 rfl rfl 5 (by decide) (va_Nw.use rfl (hK.2 _ n_fl_U_42)) (fun _ h9 => h9) rfl d_U_followRows_9 ?_
  refine lv_bipush (v := 60) hx hb d_U_followRows_12 (by decide) ?_
  refine w_min hx hb (hml.trans hl.1.symm) hown (ht _ k_ml_U_47) (ht _ k_st_Ma_min) (ht _ k_ini_Ma) (ht _ k_co_Ma_min) (Nat.le_of_ble_eq_true rfl) (Nat.le_of_ble_eq_true rfl) (Nat.zero_le _) (Nat.zero_le _) d_U_followRows_14 ?_
  refine lv_istore (lv' := [(6, .int (minF ic 60)), (0, .ref u0), (1, .ref h0), (2, .long x), (4, .long y)]) hx hb d_U_followRows_17 hl (by decide) rfl (fun ls hl => ?_)
  refine lv_iconst (v := 0) hx hb d_U_followRows_19 (by decide) ?_
  refine lv_istore (lv' := [(7, .int 0), (6, .int (minF ic 60)), (0, .ref u0), (1, .ref h0), (2, .long x), (4, .long y)]) hx hb d_U_followRows_20 hl (by decide) rfl (fun ls hl => ?_)
  have lp : ∀ (n : Nat) (at1 : Int32) (g1 : FL) (sp1 : Int32) (H : Heap) (locs : List Loc) (ls : Array Slot), (sp1.toInt + (n : Int) = 2001) → (0 ≤ sp1.toInt ∧ sp1.toInt ≤ 2000) → (roL o f ee (minF ic 60) n at1 g1 sp1 = roF o f ee ic x y) → va_P D vwCl ((wU u0 u1 u2 hg_5 sp1 en_5 bb_5) ++ ((wL4 cL u1 g1) ++ ((wB cI h0 q1 q2 q3 q4 q5 o f ee t b ic bc sa gn) ++ fr))) H → va_D A ((wU u0 u1 u2 hg_5 sp1 en_5 bb_5) ++ ((wL4 cL u1 g1) ++ ((wB cI h0 q1 q2 q3 q4 q5 o f ee t b ic bc sa gn) ++ fr))) → va_S A s.heap H locs → lv_has ls 11 [(0, .ref u0), (1, .ref h0), (2, .long x), (4, .long y), (6, .int (minF ic 60)), (7, .int at1)] → W p l e ({ frames := 3, cells := 0, slots := 0, locals := 64 } : Room) s m ([.ref u0, .ref h0, .long x, .long y] : List Value).toArray below meth c H locs 0 0 Q (F0 m 22 ls []) := by
    intro n
    induction n with
    | zero =>
      intro at1 g1 sp1 H locs ls hn hi hF hP hD hS hl
      exact absurd hn (by omega)
    | succ n ih =>
      intro at1 g1 sp1 H locs ls hn hi hF hP hD hS hl
      refine lv_aload_n hx hb d_U_followRows_22 rfl (lv_at hl 0 rfl) ?_
      refine va_get (ci := 2) (v := .int sp1) (C := R_U) (T := T_U) (N := 6) hx hb ht in_U hown hK.1 hP 0 rfl rfl 3 (by decide) (ht _ k_fl_U_31) (fun _ h9 => h9) rfl d_U_followRows_23 ?_
      refine lv_sipush (v := 2000) hx hb d_U_followRows_26 (by decide) ?_
      refine lv_icmp_ge (tgt := 158) hx hb d_U_followRows_29 (by decide) (fun c_29 => ?_) (fun c_29 => ?_)
      · refine lv_aload_n hx hb d_U_followRows_158 rfl (lv_at hl 0 rfl) ?_
        refine lv_iload hx hb d_U_followRows_159 (lv_at hl 5 rfl) ?_
        refine lv_iload hx hb d_U_followRows_161 (lv_at hl 4 rfl) ?_
        refine lv_icmp_ge (tgt := 170) hx hb d_U_followRows_163 (by decide) (fun c_163 => ?_) (fun c_163 => ?_)
        · refine lv_iconst (v := 0) hx hb d_U_followRows_170 (by decide) ?_
          refine va_put (ci := 2) (v := .int 0) (ty := .int) (C := R_U) (T := T_U) (N := 6) hx hb ht in_U t_U t_U_ok n_U hown hK.1 hP hD hS 0 rfl rfl 4 (by decide) (ht _ k_fl_U_18) (fun _ h9 => h9) rfl (by decide +kernel) rfl rfl (Nat.le_of_ble_eq_true rfl) d_U_followRows_171 (fun H locs hP hD hS => ?_)
          have hP : va_P D vwCl ((wU u0 u1 u2 hg_5 sp1 0 bb_5) ++ ((wL4 cL u1 g1) ++ ((wB cI h0 q1 q2 q3 q4 q5 o f ee t b ic bc sa gn) ++ fr))) H := hP
          have hD : va_D A ((wU u0 u1 u2 hg_5 sp1 0 bb_5) ++ ((wL4 cL u1 g1) ++ ((wB cI h0 q1 q2 q3 q4 q5 o f ee t b ic bc sa gn) ++ fr))) := hD
          rw [hQ]; exact retMv (w1 := fun u : FL × Int32 × Int32 × Int32 × Int32 => ((wU u0 u1 u2 u.2.1 u.2.2.1 u.2.2.2.1 u.2.2.2.2) ++ ((wL4 cL u1 u.1) ++ ((wB cI h0 q1 q2 q3 q4 q5 o f ee t b ic bc sa gn) ++ fr)))) (g1, hg_5, sp1, 0, bb_5) hx hb hr hlocks hP hD hS ⟨by rw [← hF]; first | (simp only [roL, if_pos c_29, if_pos c_163]; done) | simp [roL, c_29, c_163], eh, eb⟩ d_U_followRows_174
        · refine lv_iconst (v := 2) hx hb d_U_followRows_166 (by decide) ?_
          refine lv_goto (tgt := 171) hx hb d_U_followRows_167 (by decide) ?_
          refine va_put (ci := 2) (v := .int 2) (ty := .int) (C := R_U) (T := T_U) (N := 6) hx hb ht in_U t_U t_U_ok n_U hown hK.1 hP hD hS 0 rfl rfl 4 (by decide) (ht _ k_fl_U_18) (fun _ h9 => h9) rfl (by decide +kernel) rfl rfl (Nat.le_of_ble_eq_true rfl) d_U_followRows_171 (fun H locs hP hD hS => ?_)
          have hP : va_P D vwCl ((wU u0 u1 u2 hg_5 sp1 2 bb_5) ++ ((wL4 cL u1 g1) ++ ((wB cI h0 q1 q2 q3 q4 q5 o f ee t b ic bc sa gn) ++ fr))) H := hP
          have hD : va_D A ((wU u0 u1 u2 hg_5 sp1 2 bb_5) ++ ((wL4 cL u1 g1) ++ ((wB cI h0 q1 q2 q3 q4 q5 o f ee t b ic bc sa gn) ++ fr))) := hD
          rw [hQ]; exact retMv (w1 := fun u : FL × Int32 × Int32 × Int32 × Int32 => ((wU u0 u1 u2 u.2.1 u.2.2.1 u.2.2.2.1 u.2.2.2.2) ++ ((wL4 cL u1 u.1) ++ ((wB cI h0 q1 q2 q3 q4 q5 o f ee t b ic bc sa gn) ++ fr)))) (g1, hg_5, sp1, 2, bb_5) hx hb hr hlocks hP hD hS ⟨by rw [← hF]; first | (simp only [roL, if_pos c_29, if_neg c_163]; done) | simp [roL, c_29, c_163], eh, eb⟩ d_U_followRows_174
      · refine lv_iload hx hb d_U_followRows_32 (lv_at hl 5 rfl) ?_
        refine lv_if_lt (tgt := 158) hx hb d_U_followRows_34 (by decide) (fun c_34 => ?_) (fun c_34 => ?_)
        · refine lv_aload_n hx hb d_U_followRows_158 rfl (lv_at hl 0 rfl) ?_
          refine lv_iload hx hb d_U_followRows_159 (lv_at hl 5 rfl) ?_
          refine lv_iload hx hb d_U_followRows_161 (lv_at hl 4 rfl) ?_
          refine lv_icmp_ge (tgt := 170) hx hb d_U_followRows_163 (by decide) (fun c_163 => ?_) (fun c_163 => ?_)
          · refine lv_iconst (v := 0) hx hb d_U_followRows_170 (by decide) ?_
            refine va_put (ci := 2) (v := .int 0) (ty := .int) (C := R_U) (T := T_U) (N := 6) hx hb ht in_U t_U t_U_ok n_U hown hK.1 hP hD hS 0 rfl rfl 4 (by decide) (ht _ k_fl_U_18) (fun _ h9 => h9) rfl (by decide +kernel) rfl rfl (Nat.le_of_ble_eq_true rfl) d_U_followRows_171 (fun H locs hP hD hS => ?_)
            have hP : va_P D vwCl ((wU u0 u1 u2 hg_5 sp1 0 bb_5) ++ ((wL4 cL u1 g1) ++ ((wB cI h0 q1 q2 q3 q4 q5 o f ee t b ic bc sa gn) ++ fr))) H := hP
            have hD : va_D A ((wU u0 u1 u2 hg_5 sp1 0 bb_5) ++ ((wL4 cL u1 g1) ++ ((wB cI h0 q1 q2 q3 q4 q5 o f ee t b ic bc sa gn) ++ fr))) := hD
            rw [hQ]; exact retMv (w1 := fun u : FL × Int32 × Int32 × Int32 × Int32 => ((wU u0 u1 u2 u.2.1 u.2.2.1 u.2.2.2.1 u.2.2.2.2) ++ ((wL4 cL u1 u.1) ++ ((wB cI h0 q1 q2 q3 q4 q5 o f ee t b ic bc sa gn) ++ fr)))) (g1, hg_5, sp1, 0, bb_5) hx hb hr hlocks hP hD hS ⟨by rw [← hF]; first | (simp only [roL, if_neg c_29, if_pos c_34, if_pos c_163]; done) | simp [roL, c_29, c_34, c_163], eh, eb⟩ d_U_followRows_174
          · refine lv_iconst (v := 2) hx hb d_U_followRows_166 (by decide) ?_
            refine lv_goto (tgt := 171) hx hb d_U_followRows_167 (by decide) ?_
            refine va_put (ci := 2) (v := .int 2) (ty := .int) (C := R_U) (T := T_U) (N := 6) hx hb ht in_U t_U t_U_ok n_U hown hK.1 hP hD hS 0 rfl rfl 4 (by decide) (ht _ k_fl_U_18) (fun _ h9 => h9) rfl (by decide +kernel) rfl rfl (Nat.le_of_ble_eq_true rfl) d_U_followRows_171 (fun H locs hP hD hS => ?_)
            have hP : va_P D vwCl ((wU u0 u1 u2 hg_5 sp1 2 bb_5) ++ ((wL4 cL u1 g1) ++ ((wB cI h0 q1 q2 q3 q4 q5 o f ee t b ic bc sa gn) ++ fr))) H := hP
            have hD : va_D A ((wU u0 u1 u2 hg_5 sp1 2 bb_5) ++ ((wL4 cL u1 g1) ++ ((wB cI h0 q1 q2 q3 q4 q5 o f ee t b ic bc sa gn) ++ fr))) := hD
            rw [hQ]; exact retMv (w1 := fun u : FL × Int32 × Int32 × Int32 × Int32 => ((wU u0 u1 u2 u.2.1 u.2.2.1 u.2.2.2.1 u.2.2.2.2) ++ ((wL4 cL u1 u.1) ++ ((wB cI h0 q1 q2 q3 q4 q5 o f ee t b ic bc sa gn) ++ fr)))) (g1, hg_5, sp1, 2, bb_5) hx hb hr hlocks hP hD hS ⟨by rw [← hF]; first | (simp only [roL, if_neg c_29, if_pos c_34, if_neg c_163]; done) | simp [roL, c_29, c_34, c_163], eh, eb⟩ d_U_followRows_174
        · refine lv_iload hx hb d_U_followRows_37 (lv_at hl 5 rfl) ?_
          refine lv_iload hx hb d_U_followRows_39 (lv_at hl 4 rfl) ?_
          refine lv_icmp_ge (tgt := 158) hx hb d_U_followRows_41 (by decide) (fun c_41 => ?_) (fun c_41 => ?_)
          · refine lv_aload_n hx hb d_U_followRows_158 rfl (lv_at hl 0 rfl) ?_
            refine lv_iload hx hb d_U_followRows_159 (lv_at hl 5 rfl) ?_
            refine lv_iload hx hb d_U_followRows_161 (lv_at hl 4 rfl) ?_
            refine lv_icmp_ge (tgt := 170) hx hb d_U_followRows_163 (by decide) (fun c_163 => ?_) (fun c_163 => ?_)
            · refine lv_iconst (v := 0) hx hb d_U_followRows_170 (by decide) ?_
              refine va_put (ci := 2) (v := .int 0) (ty := .int) (C := R_U) (T := T_U) (N := 6) hx hb ht in_U t_U t_U_ok n_U hown hK.1 hP hD hS 0 rfl rfl 4 (by decide) (ht _ k_fl_U_18) (fun _ h9 => h9) rfl (by decide +kernel) rfl rfl (Nat.le_of_ble_eq_true rfl) d_U_followRows_171 (fun H locs hP hD hS => ?_)
              have hP : va_P D vwCl ((wU u0 u1 u2 hg_5 sp1 0 bb_5) ++ ((wL4 cL u1 g1) ++ ((wB cI h0 q1 q2 q3 q4 q5 o f ee t b ic bc sa gn) ++ fr))) H := hP
              have hD : va_D A ((wU u0 u1 u2 hg_5 sp1 0 bb_5) ++ ((wL4 cL u1 g1) ++ ((wB cI h0 q1 q2 q3 q4 q5 o f ee t b ic bc sa gn) ++ fr))) := hD
              rw [hQ]; exact retMv (w1 := fun u : FL × Int32 × Int32 × Int32 × Int32 => ((wU u0 u1 u2 u.2.1 u.2.2.1 u.2.2.2.1 u.2.2.2.2) ++ ((wL4 cL u1 u.1) ++ ((wB cI h0 q1 q2 q3 q4 q5 o f ee t b ic bc sa gn) ++ fr)))) (g1, hg_5, sp1, 0, bb_5) hx hb hr hlocks hP hD hS ⟨by rw [← hF]; first | (simp only [roL, if_neg c_29, if_neg c_34, if_pos c_41, if_pos c_163]; done) | simp [roL, c_29, c_34, c_41, c_163], eh, eb⟩ d_U_followRows_174
            · refine lv_iconst (v := 2) hx hb d_U_followRows_166 (by decide) ?_
              refine lv_goto (tgt := 171) hx hb d_U_followRows_167 (by decide) ?_
              refine va_put (ci := 2) (v := .int 2) (ty := .int) (C := R_U) (T := T_U) (N := 6) hx hb ht in_U t_U t_U_ok n_U hown hK.1 hP hD hS 0 rfl rfl 4 (by decide) (ht _ k_fl_U_18) (fun _ h9 => h9) rfl (by decide +kernel) rfl rfl (Nat.le_of_ble_eq_true rfl) d_U_followRows_171 (fun H locs hP hD hS => ?_)
              have hP : va_P D vwCl ((wU u0 u1 u2 hg_5 sp1 2 bb_5) ++ ((wL4 cL u1 g1) ++ ((wB cI h0 q1 q2 q3 q4 q5 o f ee t b ic bc sa gn) ++ fr))) H := hP
              have hD : va_D A ((wU u0 u1 u2 hg_5 sp1 2 bb_5) ++ ((wL4 cL u1 g1) ++ ((wB cI h0 q1 q2 q3 q4 q5 o f ee t b ic bc sa gn) ++ fr))) := hD
              rw [hQ]; exact retMv (w1 := fun u : FL × Int32 × Int32 × Int32 × Int32 => ((wU u0 u1 u2 u.2.1 u.2.2.1 u.2.2.2.1 u.2.2.2.2) ++ ((wL4 cL u1 u.1) ++ ((wB cI h0 q1 q2 q3 q4 q5 o f ee t b ic bc sa gn) ++ fr)))) (g1, hg_5, sp1, 2, bb_5) hx hb hr hlocks hP hD hS (absurd c_41 c_163) d_U_followRows_174
          · refine lv_aload_n hx hb d_U_followRows_44 rfl (lv_at hl 1 rfl) ?_
            refine va_getN (ci := 0) (v := .ref q1) (C := R_B) (T := T_B) (N := 9) hx hb ht in_B hown hK.1 hP 2 rfl rfl 0 (by decide) (va_Nw.use rfl (hK.2 _ n_fl_U_53)) (fun _ h9 => h9) rfl d_U_followRows_45 ?_
            refine lv_iload hx hb d_U_followRows_48 (lv_at hl 5 rfl) ?_
            refine va_iald hx hb hK.1 hP 3 0 rfl rfl (in_m60 hic c_34 c_41) d_U_followRows_50 ?_
            refine lv_istore (lv' := [(8, .int (o at1.toNatClampNeg)), (0, .ref u0), (1, .ref h0), (2, .long x), (4, .long y), (6, .int (minF ic 60)), (7, .int at1)]) hx hb d_U_followRows_51 hl (by decide) rfl (fun ls hl => ?_)
            refine lv_aload_n hx hb d_U_followRows_53 rfl (lv_at hl 2 rfl) ?_
            refine va_getN (ci := 0) (v := .ref q2) (C := R_B) (T := T_B) (N := 9) hx hb ht in_B hown hK.1 hP 2 rfl rfl 1 (by decide) (va_Nw.use rfl (hK.2 _ n_fl_U_57)) (fun _ h9 => h9) rfl d_U_followRows_54 ?_
            refine lv_iload hx hb d_U_followRows_57 (lv_at hl 6 rfl) ?_
            refine va_iald hx hb hK.1 hP 4 0 rfl rfl (in_m60 hic c_34 c_41) d_U_followRows_59 ?_
            refine lv_istore (lv' := [(9, .int (f at1.toNatClampNeg)), (8, .int (o at1.toNatClampNeg)), (0, .ref u0), (1, .ref h0), (2, .long x), (4, .long y), (6, .int (minF ic 60)), (7, .int at1)]) hx hb d_U_followRows_60 hl (by decide) rfl (fun ls hl => ?_)
            refine lv_aload_n hx hb d_U_followRows_62 rfl (lv_at hl 3 rfl) ?_
            refine va_getN (ci := 0) (v := .ref q3) (C := R_B) (T := T_B) (N := 9) hx hb ht in_B hown hK.1 hP 2 rfl rfl 2 (by decide) (va_Nw.use rfl (hK.2 _ n_fl_U_60)) (fun _ h9 => h9) rfl d_U_followRows_63 ?_
            refine lv_iload hx hb d_U_followRows_66 (lv_at hl 7 rfl) ?_
            refine va_iald hx hb hK.1 hP 5 0 rfl rfl (in_m60 hic c_34 c_41) d_U_followRows_68 ?_
            refine lv_istore (lv' := [(10, .int (ee at1.toNatClampNeg)), (9, .int (f at1.toNatClampNeg)), (8, .int (o at1.toNatClampNeg)), (0, .ref u0), (1, .ref h0), (2, .long x), (4, .long y), (6, .int (minF ic 60)), (7, .int at1)]) hx hb d_U_followRows_69 hl (by decide) rfl (fun ls hl => ?_)
            refine lv_iload hx hb d_U_followRows_71 (lv_at hl 2 rfl) ?_
            refine lv_iconst (v := 4) hx hb d_U_followRows_73 (by decide) ?_
            refine lv_icmp_ne (tgt := 94) hx hb d_U_followRows_74 (by decide) (fun c_74 => ?_) (fun c_74 => ?_)
            · refine lv_iload hx hb d_U_followRows_94 (lv_at hl 2 rfl) ?_
              refine lv_bipush (v := 6) hx hb d_U_followRows_96 (by decide) ?_
              refine lv_icmp_ne (tgt := 126) hx hb d_U_followRows_98 (by decide) (fun c_98 => ?_) (fun c_98 => ?_)
              · refine lv_aload_n hx hb d_U_followRows_126 rfl (lv_at hl 3 rfl) ?_
                refine lv_iload hx hb d_U_followRows_127 (lv_at hl 1 rfl) ?_
                refine lv_aload_n hx hb d_U_followRows_129 rfl (lv_at hl 3 rfl) ?_
                refine lv_iload hx hb d_U_followRows_130 (lv_at hl 2 rfl) ?_
                refine lv_iload hx hb d_U_followRows_132 (lv_at hl 1 rfl) ?_
                refine lv_iload hx hb d_U_followRows_134 (lv_at hl 0 rfl) ?_
                refine goRl (va_runV (As := [.int (o at1.toNatClampNeg), .int (f at1.toNatClampNeg), .int (ee at1.toNatClampNeg)]) (rest := [.int (f at1.toNatClampNeg), .ref u0]) ⟨hx, hb, hml, hown, hts⟩ (c_U_resultOf l D cI cL cO u0 u1 u2 hg_5 sp1 en_5 bb_5 g1 (o at1.toNatClampNeg) (f at1.toNatClampNeg) (ee at1.toNatClampNeg)) (cwV 3 hts (gBIG (m4 k_ml_U_67 k_im_U_resultOf k_sel_U_resultOf k_ini_U) k_co_U_resultOf) rfl rfl rfl (by decide +kernel) ⟨Nat.le_of_ble_eq_true rfl, Nat.le_of_ble_eq_true rfl⟩) ⟨PR.bl, va_recv hK.1 (P_app.mpr ⟨(P_app.mp hP).1, (P_app.mp (P_app.mp hP).2).1⟩) (ci := 2) (q0 := 0) rfl rfl, PR.pre (P_app.mpr ⟨(P_app.mp hP).1, (P_app.mp (P_app.mp hP).2).1⟩) hK⟩ rfl rfl hl.1 rfl (lv_room (Nat.le_of_ble_eq_true rfl)) d_U_followRows_136 ⟨Nat.le_of_ble_eq_true rfl, Nat.le_of_ble_eq_true rfl⟩) ?_
                refine goMv (va_runV (As := [.int (f at1.toNatClampNeg), .long (resF g1 (o at1.toNatClampNeg) (f at1.toNatClampNeg) (ee at1.toNatClampNeg))]) (rest := []) ⟨hx, hb, hml, hown, hts⟩ (c_U_store l D cI cL cO u0 u1 u2 hg_5 sp1 en_5 bb_5 g1 ((wB cI h0 q1 q2 q3 q4 q5 o f ee t b ic bc sa gn) ++ fr) (f at1.toNatClampNeg) (resF g1 (o at1.toNatClampNeg) (f at1.toNatClampNeg) (ee at1.toNatClampNeg)) H.size) (cwV 2 hts (gBIG (m4 k_ml_U_71 k_im_U_store k_sel_U_store k_ini_U) k_co_U_store) rfl rfl rfl (by decide +kernel) ⟨Nat.le_of_ble_eq_true rfl, Nat.le_of_ble_eq_true rfl⟩) ⟨PM.bl, va_recv hK.1 hP (ci := 2) (q0 := 0) rfl rfl, PM.pre hP hD hK⟩ rfl rfl hl.1 rfl (lv_room (Nat.le_of_ble_eq_true rfl)) d_U_followRows_139 ⟨Nat.le_of_ble_eq_true rfl, Nat.le_of_ble_eq_true rfl⟩) hD hS hA (fun u H locs hw hP hD hS => ?_)
                obtain ⟨g_139, rfl⟩ : ∃ z, z = u := ⟨_, rfl⟩
                have e_139 : g_139 = stF g1 (f at1.toNatClampNeg) (resF g1 (o at1.toNatClampNeg) (f at1.toNatClampNeg) (ee at1.toNatClampNeg)) := hw
                have hP : va_P D vwCl ((wU u0 u1 u2 hg_5 sp1 en_5 bb_5) ++ ((wL4 cL u1 g_139) ++ ((wB cI h0 q1 q2 q3 q4 q5 o f ee t b ic bc sa gn) ++ fr))) H := hP
                have hD : va_D A ((wU u0 u1 u2 hg_5 sp1 en_5 bb_5) ++ ((wL4 cL u1 g_139) ++ ((wB cI h0 q1 q2 q3 q4 q5 o f ee t b ic bc sa gn) ++ fr))) := hD
                refine lv_iinc (v := at1 + 1) (lv' := [(7, .int (at1 + 1)), (10, .int (ee at1.toNatClampNeg)), (9, .int (f at1.toNatClampNeg)), (8, .int (o at1.toNatClampNeg)), (0, .ref u0), (1, .ref h0), (2, .long x), (4, .long y), (6, .int (minF ic 60))]) hx hb d_U_followRows_142 hl (k := 8) rfl rfl (by decide) rfl (fun ls hl => ?_)
                refine lv_aload_n hx hb d_U_followRows_145 rfl (lv_at hl 4 rfl) ?_
                refine lv_dup hx hb d_U_followRows_146 rfl ?_
                refine va_get (ci := 2) (v := .int sp1) (C := R_U) (T := T_U) (N := 6) hx hb ht in_U hown hK.1 hP 0 rfl rfl 3 (by decide) (ht _ k_fl_U_31) (fun _ h9 => h9) rfl d_U_followRows_147 ?_
                refine lv_iconst (v := 1) hx hb d_U_followRows_150 (by decide) ?_
                refine lv_iadd hx hb d_U_followRows_151 ?_
                refine va_put (ci := 2) (v := .int (sp1 + 1)) (ty := .int) (C := R_U) (T := T_U) (N := 6) hx hb ht in_U t_U t_U_ok n_U hown hK.1 hP hD hS 0 rfl rfl 3 (by decide) (ht _ k_fl_U_31) (fun _ h9 => h9) rfl (by decide +kernel) rfl rfl (Nat.le_of_ble_eq_true rfl) d_U_followRows_152 (fun H locs hP hD hS => ?_)
                have hP : va_P D vwCl ((wU u0 u1 u2 hg_5 (sp1 + 1) en_5 bb_5) ++ ((wL4 cL u1 g_139) ++ ((wB cI h0 q1 q2 q3 q4 q5 o f ee t b ic bc sa gn) ++ fr))) H := hP
                have hD : va_D A ((wU u0 u1 u2 hg_5 (sp1 + 1) en_5 bb_5) ++ ((wL4 cL u1 g_139) ++ ((wB cI h0 q1 q2 q3 q4 q5 o f ee t b ic bc sa gn) ++ fr))) := hD
                refine lv_goto (tgt := 22) hx hb d_U_followRows_155 (by decide) ?_
                exact ih (at1 + 1) g_139 (sp1 + 1) _ _ ls (by rw [i32_1 (by omega)]; omega) (by rw [i32_1 (by omega)]; have := i_lt c_29; have h3 : (2000 : Int32).toInt = 2000 := (by decide); omega) (by rw [e_139, ← hF]; first | (simp only [roL, if_neg c_29, if_neg c_34, if_neg c_41, if_neg c_74, if_neg c_98]; done) | simp [roL, c_29, c_34, c_41, c_74, c_98]) hP hD hS (lv_sub hl [4, 5, 6, 7, 8, 0] rfl)
              · refine lv_aload_n hx hb d_U_followRows_101 rfl (lv_at hl 3 rfl) ?_
                refine lv_iload hx hb d_U_followRows_102 (lv_at hl 1 rfl) ?_
                refine goRl (va_runV (As := [.int (f at1.toNatClampNeg)]) (rest := []) ⟨hx, hb, hml, hown, hts⟩ (c_U_load l D cI cL cO u0 u1 u2 hg_5 sp1 en_5 bb_5 g1 (f at1.toNatClampNeg)) (cwV 1 hts (gBIG (m4 k_ml_U_63 k_im_U_load k_sel_U_load k_ini_U) k_co_U_load) rfl rfl rfl (by decide +kernel) ⟨Nat.le_of_ble_eq_true rfl, Nat.le_of_ble_eq_true rfl⟩) ⟨PR.bl, va_recv hK.1 (P_app.mpr ⟨(P_app.mp hP).1, (P_app.mp (P_app.mp hP).2).1⟩) (ci := 2) (q0 := 0) rfl rfl, PR.pre (P_app.mpr ⟨(P_app.mp hP).1, (P_app.mp (P_app.mp hP).2).1⟩) hK⟩ rfl rfl hl.1 rfl (lv_room (Nat.le_of_ble_eq_true rfl)) d_U_followRows_104 ⟨Nat.le_of_ble_eq_true rfl, Nat.le_of_ble_eq_true rfl⟩) ?_
                refine lv_lconst (v := 0) hx hb d_U_followRows_107 (by decide) ?_
                refine W.lcmp hx hb d_U_followRows_108 ?_
                refine lv_if_eq (tgt := 117) hx hb d_U_followRows_109 (by decide) (fun c_109 => ?_) (fun c_109 => ?_)
                · refine lv_iload hx hb d_U_followRows_117 (lv_at hl 8 rfl) ?_
                  refine lv_iconst (v := 1) hx hb d_U_followRows_119 (by decide) ?_
                  refine lv_iadd hx hb d_U_followRows_120 ?_
                  refine lv_istore (lv' := [(7, .int (at1 + 1)), (10, .int (ee at1.toNatClampNeg)), (9, .int (f at1.toNatClampNeg)), (8, .int (o at1.toNatClampNeg)), (0, .ref u0), (1, .ref h0), (2, .long x), (4, .long y), (6, .int (minF ic 60))]) hx hb d_U_followRows_121 hl (by decide) rfl (fun ls hl => ?_)
                  refine lv_goto (tgt := 145) hx hb d_U_followRows_123 (by decide) ?_
                  refine lv_aload_n hx hb d_U_followRows_145 rfl (lv_at hl 4 rfl) ?_
                  refine lv_dup hx hb d_U_followRows_146 rfl ?_
                  refine va_get (ci := 2) (v := .int sp1) (C := R_U) (T := T_U) (N := 6) hx hb ht in_U hown hK.1 hP 0 rfl rfl 3 (by decide) (ht _ k_fl_U_31) (fun _ h9 => h9) rfl d_U_followRows_147 ?_
                  refine lv_iconst (v := 1) hx hb d_U_followRows_150 (by decide) ?_
                  refine lv_iadd hx hb d_U_followRows_151 ?_
                  refine va_put (ci := 2) (v := .int (sp1 + 1)) (ty := .int) (C := R_U) (T := T_U) (N := 6) hx hb ht in_U t_U t_U_ok n_U hown hK.1 hP hD hS 0 rfl rfl 3 (by decide) (ht _ k_fl_U_31) (fun _ h9 => h9) rfl (by decide +kernel) rfl rfl (Nat.le_of_ble_eq_true rfl) d_U_followRows_152 (fun H locs hP hD hS => ?_)
                  have hP : va_P D vwCl ((wU u0 u1 u2 hg_5 (sp1 + 1) en_5 bb_5) ++ ((wL4 cL u1 g1) ++ ((wB cI h0 q1 q2 q3 q4 q5 o f ee t b ic bc sa gn) ++ fr))) H := hP
                  have hD : va_D A ((wU u0 u1 u2 hg_5 (sp1 + 1) en_5 bb_5) ++ ((wL4 cL u1 g1) ++ ((wB cI h0 q1 q2 q3 q4 q5 o f ee t b ic bc sa gn) ++ fr))) := hD
                  refine lv_goto (tgt := 22) hx hb d_U_followRows_155 (by decide) ?_
                  exact ih (at1 + 1) g1 (sp1 + 1) _ _ ls (by rw [i32_1 (by omega)]; omega) (by rw [i32_1 (by omega)]; have := i_lt c_29; have h3 : (2000 : Int32).toInt = 2000 := (by decide); omega) (by rw [← hF]; first | (simp only [roL, if_neg c_29, if_neg c_34, if_neg c_41, if_neg c_74, if_pos c_98, if_pos c_109]; done) | simp [roL, c_29, c_34, c_41, c_74, c_98, c_109]) hP hD hS (lv_sub hl [4, 5, 6, 7, 8, 0] rfl)
                · refine lv_iload hx hb d_U_followRows_112 (lv_at hl 0 rfl) ?_
                  refine lv_goto (tgt := 121) hx hb d_U_followRows_114 (by decide) ?_
                  refine lv_istore (lv' := [(7, .int (ee at1.toNatClampNeg)), (10, .int (ee at1.toNatClampNeg)), (9, .int (f at1.toNatClampNeg)), (8, .int (o at1.toNatClampNeg)), (0, .ref u0), (1, .ref h0), (2, .long x), (4, .long y), (6, .int (minF ic 60))]) hx hb d_U_followRows_121 hl (by decide) rfl (fun ls hl => ?_)
                  refine lv_goto (tgt := 145) hx hb d_U_followRows_123 (by decide) ?_
                  refine lv_aload_n hx hb d_U_followRows_145 rfl (lv_at hl 4 rfl) ?_
                  refine lv_dup hx hb d_U_followRows_146 rfl ?_
                  refine va_get (ci := 2) (v := .int sp1) (C := R_U) (T := T_U) (N := 6) hx hb ht in_U hown hK.1 hP 0 rfl rfl 3 (by decide) (ht _ k_fl_U_31) (fun _ h9 => h9) rfl d_U_followRows_147 ?_
                  refine lv_iconst (v := 1) hx hb d_U_followRows_150 (by decide) ?_
                  refine lv_iadd hx hb d_U_followRows_151 ?_
                  refine va_put (ci := 2) (v := .int (sp1 + 1)) (ty := .int) (C := R_U) (T := T_U) (N := 6) hx hb ht in_U t_U t_U_ok n_U hown hK.1 hP hD hS 0 rfl rfl 3 (by decide) (ht _ k_fl_U_31) (fun _ h9 => h9) rfl (by decide +kernel) rfl rfl (Nat.le_of_ble_eq_true rfl) d_U_followRows_152 (fun H locs hP hD hS => ?_)
                  have hP : va_P D vwCl ((wU u0 u1 u2 hg_5 (sp1 + 1) en_5 bb_5) ++ ((wL4 cL u1 g1) ++ ((wB cI h0 q1 q2 q3 q4 q5 o f ee t b ic bc sa gn) ++ fr))) H := hP
                  have hD : va_D A ((wU u0 u1 u2 hg_5 (sp1 + 1) en_5 bb_5) ++ ((wL4 cL u1 g1) ++ ((wB cI h0 q1 q2 q3 q4 q5 o f ee t b ic bc sa gn) ++ fr))) := hD
                  refine lv_goto (tgt := 22) hx hb d_U_followRows_155 (by decide) ?_
                  exact ih (ee at1.toNatClampNeg) g1 (sp1 + 1) _ _ ls (by rw [i32_1 (by omega)]; omega) (by rw [i32_1 (by omega)]; have := i_lt c_29; have h3 : (2000 : Int32).toInt = 2000 := (by decide); omega) (by rw [← hF]; first | (simp only [roL, if_neg c_29, if_neg c_34, if_neg c_41, if_neg c_74, if_pos c_98, if_neg c_109]; done) | simp [roL, c_29, c_34, c_41, c_74, c_98, c_109]) hP hD hS (lv_sub hl [4, 5, 6, 7, 8, 0] rfl)
            · refine lv_aload_n hx hb d_U_followRows_77 rfl (lv_at hl 3 rfl) ?_
              refine lv_iload hx hb d_U_followRows_78 (lv_at hl 0 rfl) ?_
              refine goRl (va_runV (As := [.int (ee at1.toNatClampNeg)]) (rest := []) ⟨hx, hb, hml, hown, hts⟩ (c_U_load l D cI cL cO u0 u1 u2 hg_5 sp1 en_5 bb_5 g1 (ee at1.toNatClampNeg)) (cwV 1 hts (gBIG (m4 k_ml_U_63 k_im_U_load k_sel_U_load k_ini_U) k_co_U_load) rfl rfl rfl (by decide +kernel) ⟨Nat.le_of_ble_eq_true rfl, Nat.le_of_ble_eq_true rfl⟩) ⟨PR.bl, va_recv hK.1 (P_app.mpr ⟨(P_app.mp hP).1, (P_app.mp (P_app.mp hP).2).1⟩) (ci := 2) (q0 := 0) rfl rfl, PR.pre (P_app.mpr ⟨(P_app.mp hP).1, (P_app.mp (P_app.mp hP).2).1⟩) hK⟩ rfl rfl hl.1 rfl (lv_room (Nat.le_of_ble_eq_true rfl)) d_U_followRows_80 ⟨Nat.le_of_ble_eq_true rfl, Nat.le_of_ble_eq_true rfl⟩) ?_
              refine lv_lconst (v := 0) hx hb d_U_followRows_83 (by decide) ?_
              refine W.lcmp hx hb d_U_followRows_84 ?_
              refine lv_if_ne (tgt := 94) hx hb d_U_followRows_85 (by decide) (fun c_85 => ?_) (fun c_85 => ?_)
              · refine lv_iload hx hb d_U_followRows_94 (lv_at hl 2 rfl) ?_
                refine lv_bipush (v := 6) hx hb d_U_followRows_96 (by decide) ?_
                refine lv_icmp_ne (tgt := 126) hx hb d_U_followRows_98 (by decide) (fun c_98 => ?_) (fun c_98 => ?_)
                · refine lv_aload_n hx hb d_U_followRows_126 rfl (lv_at hl 3 rfl) ?_
                  refine lv_iload hx hb d_U_followRows_127 (lv_at hl 1 rfl) ?_
                  refine lv_aload_n hx hb d_U_followRows_129 rfl (lv_at hl 3 rfl) ?_
                  refine lv_iload hx hb d_U_followRows_130 (lv_at hl 2 rfl) ?_
                  refine lv_iload hx hb d_U_followRows_132 (lv_at hl 1 rfl) ?_
                  refine lv_iload hx hb d_U_followRows_134 (lv_at hl 0 rfl) ?_
                  refine goRl (va_runV (As := [.int (o at1.toNatClampNeg), .int (f at1.toNatClampNeg), .int (ee at1.toNatClampNeg)]) (rest := [.int (f at1.toNatClampNeg), .ref u0]) ⟨hx, hb, hml, hown, hts⟩ (c_U_resultOf l D cI cL cO u0 u1 u2 hg_5 sp1 en_5 bb_5 g1 (o at1.toNatClampNeg) (f at1.toNatClampNeg) (ee at1.toNatClampNeg)) (cwV 3 hts (gBIG (m4 k_ml_U_67 k_im_U_resultOf k_sel_U_resultOf k_ini_U) k_co_U_resultOf) rfl rfl rfl (by decide +kernel) ⟨Nat.le_of_ble_eq_true rfl, Nat.le_of_ble_eq_true rfl⟩) ⟨PR.bl, va_recv hK.1 (P_app.mpr ⟨(P_app.mp hP).1, (P_app.mp (P_app.mp hP).2).1⟩) (ci := 2) (q0 := 0) rfl rfl, PR.pre (P_app.mpr ⟨(P_app.mp hP).1, (P_app.mp (P_app.mp hP).2).1⟩) hK⟩ rfl rfl hl.1 rfl (lv_room (Nat.le_of_ble_eq_true rfl)) d_U_followRows_136 ⟨Nat.le_of_ble_eq_true rfl, Nat.le_of_ble_eq_true rfl⟩) ?_
                  refine goMv (va_runV (As := [.int (f at1.toNatClampNeg), .long (resF g1 (o at1.toNatClampNeg) (f at1.toNatClampNeg) (ee at1.toNatClampNeg))]) (rest := []) ⟨hx, hb, hml, hown, hts⟩ (c_U_store l D cI cL cO u0 u1 u2 hg_5 sp1 en_5 bb_5 g1 ((wB cI h0 q1 q2 q3 q4 q5 o f ee t b ic bc sa gn) ++ fr) (f at1.toNatClampNeg) (resF g1 (o at1.toNatClampNeg) (f at1.toNatClampNeg) (ee at1.toNatClampNeg)) H.size) (cwV 2 hts (gBIG (m4 k_ml_U_71 k_im_U_store k_sel_U_store k_ini_U) k_co_U_store) rfl rfl rfl (by decide +kernel) ⟨Nat.le_of_ble_eq_true rfl, Nat.le_of_ble_eq_true rfl⟩) ⟨PM.bl, va_recv hK.1 hP (ci := 2) (q0 := 0) rfl rfl, PM.pre hP hD hK⟩ rfl rfl hl.1 rfl (lv_room (Nat.le_of_ble_eq_true rfl)) d_U_followRows_139 ⟨Nat.le_of_ble_eq_true rfl, Nat.le_of_ble_eq_true rfl⟩) hD hS hA (fun u H locs hw hP hD hS => ?_)
                  obtain ⟨g_139, rfl⟩ : ∃ z, z = u := ⟨_, rfl⟩
                  have e_139 : g_139 = stF g1 (f at1.toNatClampNeg) (resF g1 (o at1.toNatClampNeg) (f at1.toNatClampNeg) (ee at1.toNatClampNeg)) := hw
                  have hP : va_P D vwCl ((wU u0 u1 u2 hg_5 sp1 en_5 bb_5) ++ ((wL4 cL u1 g_139) ++ ((wB cI h0 q1 q2 q3 q4 q5 o f ee t b ic bc sa gn) ++ fr))) H := hP
                  have hD : va_D A ((wU u0 u1 u2 hg_5 sp1 en_5 bb_5) ++ ((wL4 cL u1 g_139) ++ ((wB cI h0 q1 q2 q3 q4 q5 o f ee t b ic bc sa gn) ++ fr))) := hD
                  refine lv_iinc (v := at1 + 1) (lv' := [(7, .int (at1 + 1)), (10, .int (ee at1.toNatClampNeg)), (9, .int (f at1.toNatClampNeg)), (8, .int (o at1.toNatClampNeg)), (0, .ref u0), (1, .ref h0), (2, .long x), (4, .long y), (6, .int (minF ic 60))]) hx hb d_U_followRows_142 hl (k := 8) rfl rfl (by decide) rfl (fun ls hl => ?_)
                  refine lv_aload_n hx hb d_U_followRows_145 rfl (lv_at hl 4 rfl) ?_
                  refine lv_dup hx hb d_U_followRows_146 rfl ?_
                  refine va_get (ci := 2) (v := .int sp1) (C := R_U) (T := T_U) (N := 6) hx hb ht in_U hown hK.1 hP 0 rfl rfl 3 (by decide) (ht _ k_fl_U_31) (fun _ h9 => h9) rfl d_U_followRows_147 ?_
                  refine lv_iconst (v := 1) hx hb d_U_followRows_150 (by decide) ?_
                  refine lv_iadd hx hb d_U_followRows_151 ?_
                  refine va_put (ci := 2) (v := .int (sp1 + 1)) (ty := .int) (C := R_U) (T := T_U) (N := 6) hx hb ht in_U t_U t_U_ok n_U hown hK.1 hP hD hS 0 rfl rfl 3 (by decide) (ht _ k_fl_U_31) (fun _ h9 => h9) rfl (by decide +kernel) rfl rfl (Nat.le_of_ble_eq_true rfl) d_U_followRows_152 (fun H locs hP hD hS => ?_)
                  have hP : va_P D vwCl ((wU u0 u1 u2 hg_5 (sp1 + 1) en_5 bb_5) ++ ((wL4 cL u1 g_139) ++ ((wB cI h0 q1 q2 q3 q4 q5 o f ee t b ic bc sa gn) ++ fr))) H := hP
                  have hD : va_D A ((wU u0 u1 u2 hg_5 (sp1 + 1) en_5 bb_5) ++ ((wL4 cL u1 g_139) ++ ((wB cI h0 q1 q2 q3 q4 q5 o f ee t b ic bc sa gn) ++ fr))) := hD
                  refine lv_goto (tgt := 22) hx hb d_U_followRows_155 (by decide) ?_
                  exact ih (at1 + 1) g_139 (sp1 + 1) _ _ ls (by rw [i32_1 (by omega)]; omega) (by rw [i32_1 (by omega)]; have := i_lt c_29; have h3 : (2000 : Int32).toInt = 2000 := (by decide); omega) (by rw [e_139, ← hF]; first | (simp only [roL, if_neg c_29, if_neg c_34, if_neg c_41, if_pos c_74, if_neg c_85, if_neg c_98]; done) | simp [roL, c_29, c_34, c_41, c_74, c_85, c_98]) hP hD hS (lv_sub hl [4, 5, 6, 7, 8, 0] rfl)
                · refine lv_aload_n hx hb d_U_followRows_101 rfl (lv_at hl 3 rfl) ?_
                  refine lv_iload hx hb d_U_followRows_102 (lv_at hl 1 rfl) ?_
                  refine goRl (va_runV (As := [.int (f at1.toNatClampNeg)]) (rest := []) ⟨hx, hb, hml, hown, hts⟩ (c_U_load l D cI cL cO u0 u1 u2 hg_5 sp1 en_5 bb_5 g1 (f at1.toNatClampNeg)) (cwV 1 hts (gBIG (m4 k_ml_U_63 k_im_U_load k_sel_U_load k_ini_U) k_co_U_load) rfl rfl rfl (by decide +kernel) ⟨Nat.le_of_ble_eq_true rfl, Nat.le_of_ble_eq_true rfl⟩) ⟨PR.bl, va_recv hK.1 (P_app.mpr ⟨(P_app.mp hP).1, (P_app.mp (P_app.mp hP).2).1⟩) (ci := 2) (q0 := 0) rfl rfl, PR.pre (P_app.mpr ⟨(P_app.mp hP).1, (P_app.mp (P_app.mp hP).2).1⟩) hK⟩ rfl rfl hl.1 rfl (lv_room (Nat.le_of_ble_eq_true rfl)) d_U_followRows_104 ⟨Nat.le_of_ble_eq_true rfl, Nat.le_of_ble_eq_true rfl⟩) ?_
                  refine lv_lconst (v := 0) hx hb d_U_followRows_107 (by decide) ?_
                  refine W.lcmp hx hb d_U_followRows_108 ?_
                  refine lv_if_eq (tgt := 117) hx hb d_U_followRows_109 (by decide) (fun c_109 => ?_) (fun c_109 => ?_)
                  · refine lv_iload hx hb d_U_followRows_117 (lv_at hl 8 rfl) ?_
                    refine lv_iconst (v := 1) hx hb d_U_followRows_119 (by decide) ?_
                    refine lv_iadd hx hb d_U_followRows_120 ?_
                    refine lv_istore (lv' := [(7, .int (at1 + 1)), (10, .int (ee at1.toNatClampNeg)), (9, .int (f at1.toNatClampNeg)), (8, .int (o at1.toNatClampNeg)), (0, .ref u0), (1, .ref h0), (2, .long x), (4, .long y), (6, .int (minF ic 60))]) hx hb d_U_followRows_121 hl (by decide) rfl (fun ls hl => ?_)
                    refine lv_goto (tgt := 145) hx hb d_U_followRows_123 (by decide) ?_
                    refine lv_aload_n hx hb d_U_followRows_145 rfl (lv_at hl 4 rfl) ?_
                    refine lv_dup hx hb d_U_followRows_146 rfl ?_
                    refine va_get (ci := 2) (v := .int sp1) (C := R_U) (T := T_U) (N := 6) hx hb ht in_U hown hK.1 hP 0 rfl rfl 3 (by decide) (ht _ k_fl_U_31) (fun _ h9 => h9) rfl d_U_followRows_147 ?_
                    refine lv_iconst (v := 1) hx hb d_U_followRows_150 (by decide) ?_
                    refine lv_iadd hx hb d_U_followRows_151 ?_
                    refine va_put (ci := 2) (v := .int (sp1 + 1)) (ty := .int) (C := R_U) (T := T_U) (N := 6) hx hb ht in_U t_U t_U_ok n_U hown hK.1 hP hD hS 0 rfl rfl 3 (by decide) (ht _ k_fl_U_31) (fun _ h9 => h9) rfl (by decide +kernel) rfl rfl (Nat.le_of_ble_eq_true rfl) d_U_followRows_152 (fun H locs hP hD hS => ?_)
                    have hP : va_P D vwCl ((wU u0 u1 u2 hg_5 (sp1 + 1) en_5 bb_5) ++ ((wL4 cL u1 g1) ++ ((wB cI h0 q1 q2 q3 q4 q5 o f ee t b ic bc sa gn) ++ fr))) H := hP
                    have hD : va_D A ((wU u0 u1 u2 hg_5 (sp1 + 1) en_5 bb_5) ++ ((wL4 cL u1 g1) ++ ((wB cI h0 q1 q2 q3 q4 q5 o f ee t b ic bc sa gn) ++ fr))) := hD
                    refine lv_goto (tgt := 22) hx hb d_U_followRows_155 (by decide) ?_
                    exact ih (at1 + 1) g1 (sp1 + 1) _ _ ls (by rw [i32_1 (by omega)]; omega) (by rw [i32_1 (by omega)]; have := i_lt c_29; have h3 : (2000 : Int32).toInt = 2000 := (by decide); omega) (by rw [← hF]; first | (simp only [roL, if_neg c_29, if_neg c_34, if_neg c_41, if_pos c_74, if_neg c_85, if_pos c_98, if_pos c_109]; done) | simp [roL, c_29, c_34, c_41, c_74, c_85, c_98, c_109]) hP hD hS (lv_sub hl [4, 5, 6, 7, 8, 0] rfl)
                  · refine lv_iload hx hb d_U_followRows_112 (lv_at hl 0 rfl) ?_
                    refine lv_goto (tgt := 121) hx hb d_U_followRows_114 (by decide) ?_
                    refine lv_istore (lv' := [(7, .int (ee at1.toNatClampNeg)), (10, .int (ee at1.toNatClampNeg)), (9, .int (f at1.toNatClampNeg)), (8, .int (o at1.toNatClampNeg)), (0, .ref u0), (1, .ref h0), (2, .long x), (4, .long y), (6, .int (minF ic 60))]) hx hb d_U_followRows_121 hl (by decide) rfl (fun ls hl => ?_)
                    refine lv_goto (tgt := 145) hx hb d_U_followRows_123 (by decide) ?_
                    refine lv_aload_n hx hb d_U_followRows_145 rfl (lv_at hl 4 rfl) ?_
                    refine lv_dup hx hb d_U_followRows_146 rfl ?_
                    refine va_get (ci := 2) (v := .int sp1) (C := R_U) (T := T_U) (N := 6) hx hb ht in_U hown hK.1 hP 0 rfl rfl 3 (by decide) (ht _ k_fl_U_31) (fun _ h9 => h9) rfl d_U_followRows_147 ?_
                    refine lv_iconst (v := 1) hx hb d_U_followRows_150 (by decide) ?_
                    refine lv_iadd hx hb d_U_followRows_151 ?_
                    refine va_put (ci := 2) (v := .int (sp1 + 1)) (ty := .int) (C := R_U) (T := T_U) (N := 6) hx hb ht in_U t_U t_U_ok n_U hown hK.1 hP hD hS 0 rfl rfl 3 (by decide) (ht _ k_fl_U_31) (fun _ h9 => h9) rfl (by decide +kernel) rfl rfl (Nat.le_of_ble_eq_true rfl) d_U_followRows_152 (fun H locs hP hD hS => ?_)
                    have hP : va_P D vwCl ((wU u0 u1 u2 hg_5 (sp1 + 1) en_5 bb_5) ++ ((wL4 cL u1 g1) ++ ((wB cI h0 q1 q2 q3 q4 q5 o f ee t b ic bc sa gn) ++ fr))) H := hP
                    have hD : va_D A ((wU u0 u1 u2 hg_5 (sp1 + 1) en_5 bb_5) ++ ((wL4 cL u1 g1) ++ ((wB cI h0 q1 q2 q3 q4 q5 o f ee t b ic bc sa gn) ++ fr))) := hD
                    refine lv_goto (tgt := 22) hx hb d_U_followRows_155 (by decide) ?_
                    exact ih (ee at1.toNatClampNeg) g1 (sp1 + 1) _ _ ls (by rw [i32_1 (by omega)]; omega) (by rw [i32_1 (by omega)]; have := i_lt c_29; have h3 : (2000 : Int32).toInt = 2000 := (by decide); omega) (by rw [← hF]; first | (simp only [roL, if_neg c_29, if_neg c_34, if_neg c_41, if_pos c_74, if_neg c_85, if_pos c_98, if_neg c_109]; done) | simp [roL, c_29, c_34, c_41, c_74, c_85, c_98, c_109]) hP hD hS (lv_sub hl [4, 5, 6, 7, 8, 0] rfl)
              · refine lv_aload_n hx hb d_U_followRows_88 rfl (lv_at hl 3 rfl) ?_
                refine lv_iconst (v := 1) hx hb d_U_followRows_89 (by decide) ?_
                refine va_put (ci := 2) (v := .int 1) (ty := .int) (C := R_U) (T := T_U) (N := 6) hx hb ht in_U t_U t_U_ok n_U hown hK.1 hP hD hS 0 rfl rfl 4 (by decide) (ht _ k_fl_U_18) (fun _ h9 => h9) rfl (by decide +kernel) rfl rfl (Nat.le_of_ble_eq_true rfl) d_U_followRows_90 (fun H locs hP hD hS => ?_)
                have hP : va_P D vwCl ((wU u0 u1 u2 hg_5 sp1 1 bb_5) ++ ((wL4 cL u1 g1) ++ ((wB cI h0 q1 q2 q3 q4 q5 o f ee t b ic bc sa gn) ++ fr))) H := hP
                have hD : va_D A ((wU u0 u1 u2 hg_5 sp1 1 bb_5) ++ ((wL4 cL u1 g1) ++ ((wB cI h0 q1 q2 q3 q4 q5 o f ee t b ic bc sa gn) ++ fr))) := hD
                rw [hQ]; exact retMv (w1 := fun u : FL × Int32 × Int32 × Int32 × Int32 => ((wU u0 u1 u2 u.2.1 u.2.2.1 u.2.2.2.1 u.2.2.2.2) ++ ((wL4 cL u1 u.1) ++ ((wB cI h0 q1 q2 q3 q4 q5 o f ee t b ic bc sa gn) ++ fr)))) (g1, hg_5, sp1, 1, bb_5) hx hb hr hlocks hP hD hS ⟨by rw [← hF]; first | (simp only [roL, if_neg c_29, if_neg c_34, if_neg c_41, if_pos c_74, if_pos c_85]; done) | simp [roL, c_29, c_34, c_41, c_74, c_85], eh, eb⟩ d_U_followRows_93
  exact lp 2001 0 g_5 sp_5 _ _ ls (by rw [es9]; decide) (by rw [es9]; decide) (by rw [eg, es9]; rfl) hP hD hS (lv_sub hl [2, 3, 4, 5, 1, 0] rfl)
