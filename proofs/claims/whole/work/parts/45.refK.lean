abbrev w_Z_pushed : List Cond := .code y_Z_pushed b_Z_pushed 2 (some .int) :: BIG
set_option maxHeartbeats 1000000 in
set_option maxRecDepth 100000 in
theorem c_Z_pushed (l : Launch) (D : va_G) (cI cL cO : ClassId) (z0 : Nat) (y1 : Nat) (y2 : Nat) (y3 : Nat) (y4 : Nat) (y5 : Nat) (y6 : Nat) (y7 : Nat) (y8 : Nat) (y9 : Nat) (y10 : Nat) (y11 : Nat) (y12 : Nat) (y13 : Nat) (y14 : Nat) (mn : Fn) (oo : Fn) (oa : Fn) (ob : Fn) (ss : Fn) (gg : Fn) (zz : Fn) (md : Fn) (sd : Fn) (da : Fn) (rg : FL) (pp : FL) (kp : FL) (ot : FL) (th : Int32) (li : Int32) (bl : Int32) (nw : Int32) (wr : Int32) (ru : Int32) (al : Int32) (sp : Int32) (en : Int32) (ke : Int32) (kb : Int32) (at0 : Int32) (q : Int32) (hq0 : vp_in q 7200) (hq1 : vp_in (q + 1) 7200) (hq4 : ¬ md q.toNatClampNeg = 16 → vp_in (q + 2) 7200 ∧ vp_in (q + 3) 7200 ∧ vp_in (q + 4) 7200) : CRi l y_Z_pushed w_Z_pushed ({ frames := 0, cells := 0, slots := 0, locals := 0 }) D cI cL cO [.ref z0, .int q] (wZ cI cL z0 y1 y2 y3 y4 y5 y6 y7 y8 y9 y10 y11 y12 y13 y14 mn oo oa ob ss gg zz md sd da rg pp kp ot th li bl nw wr ru al sp en ke kb at0) (zpsF (md q.toNatClampNeg) (md (q + 1).toNatClampNeg) (md (q + 2).toNatClampNeg) (md (q + 3).toNatClampNeg) (md (q + 4).toNatClampNeg)) := by
  refine ofR (cc := b_Z_pushed) (maxL := 2) (ret := (some .int)) (by decide) rfl (Nat.le_of_ble_eq_true rfl) ?_
  intro p e s m below meth c ls Q hQ hx hb hr hlocks hts hown hml hP hK hl
  have hl : lv_has ls 2 [(0, .ref z0), (1, .int q)] := hl
  have hown : s.vm.findClass R_Z = some m.cls := hown
  have ht : ∀ w ∈ BIG, w.before _ s = true := fun w h => hts w (List.mem_cons_of_mem _ h)
  refine lv_aload_n hx hb d_Z_pushed_0 rfl (lv_at hl 0 rfl) ?_
  refine va_get (ci := 5) (v := .ref y8) (C := R_Z) (T := T_Z) (N := 26) hx hb ht in_Z hown hK.1 hP 0 rfl rfl 14 (by decide) (ht _ k_fl_Z_31) (fun _ h9 => h9) rfl d_Z_pushed_1 ?_
  refine lv_iload_n hx hb d_Z_pushed_4 rfl (lv_at hl 1 rfl) ?_
  refine va_iald hx hb hK.1 hP 8 0 rfl rfl hq0 d_Z_pushed_5 ?_
  refine lv_bipush (v := 16) hx hb d_Z_pushed_6 (by decide) ?_
  refine lv_icmp_ne (tgt := 30) hx hb d_Z_pushed_8 (by decide) (fun c_8 => ?_) (fun c_8 => ?_)
  · refine lv_aload_n hx hb d_Z_pushed_30 rfl (lv_at hl 0 rfl) ?_
    refine va_get (ci := 5) (v := .ref y8) (C := R_Z) (T := T_Z) (N := 26) hx hb ht in_Z hown hK.1 hP 0 rfl rfl 14 (by decide) (ht _ k_fl_Z_31) (fun _ h9 => h9) rfl d_Z_pushed_31 ?_
    refine lv_iload_n hx hb d_Z_pushed_34 rfl (lv_at hl 1 rfl) ?_
    refine lv_iconst (v := 1) hx hb d_Z_pushed_35 (by decide) ?_
    refine lv_iadd hx hb d_Z_pushed_36 ?_
    refine va_iald hx hb hK.1 hP 8 0 rfl rfl hq1 d_Z_pushed_37 ?_
    refine lv_bipush (v := 24) hx hb d_Z_pushed_38 (by decide) ?_
    refine lv_ishl hx hb d_Z_pushed_40 ?_
    refine lv_aload_n hx hb d_Z_pushed_41 rfl (lv_at hl 0 rfl) ?_
    refine va_get (ci := 5) (v := .ref y8) (C := R_Z) (T := T_Z) (N := 26) hx hb ht in_Z hown hK.1 hP 0 rfl rfl 14 (by decide) (ht _ k_fl_Z_31) (fun _ h9 => h9) rfl d_Z_pushed_42 ?_
    refine lv_iload_n hx hb d_Z_pushed_45 rfl (lv_at hl 1 rfl) ?_
    refine lv_iconst (v := 2) hx hb d_Z_pushed_46 (by decide) ?_
    refine lv_iadd hx hb d_Z_pushed_47 ?_
    refine va_iald hx hb hK.1 hP 8 0 rfl rfl (hq4 c_8).1 d_Z_pushed_48 ?_
    refine lv_bipush (v := 16) hx hb d_Z_pushed_49 (by decide) ?_
    refine lv_ishl hx hb d_Z_pushed_51 ?_
    refine lv_ior hx hb d_Z_pushed_52 ?_
    refine lv_aload_n hx hb d_Z_pushed_53 rfl (lv_at hl 0 rfl) ?_
    refine va_get (ci := 5) (v := .ref y8) (C := R_Z) (T := T_Z) (N := 26) hx hb ht in_Z hown hK.1 hP 0 rfl rfl 14 (by decide) (ht _ k_fl_Z_31) (fun _ h9 => h9) rfl d_Z_pushed_54 ?_
    refine lv_iload_n hx hb d_Z_pushed_57 rfl (lv_at hl 1 rfl) ?_
    refine lv_iconst (v := 3) hx hb d_Z_pushed_58 (by decide) ?_
    refine lv_iadd hx hb d_Z_pushed_59 ?_
    refine va_iald hx hb hK.1 hP 8 0 rfl rfl (hq4 c_8).2.1 d_Z_pushed_60 ?_
    refine lv_bipush (v := 8) hx hb d_Z_pushed_61 (by decide) ?_
    refine lv_ishl hx hb d_Z_pushed_63 ?_
    refine lv_ior hx hb d_Z_pushed_64 ?_
    refine lv_aload_n hx hb d_Z_pushed_65 rfl (lv_at hl 0 rfl) ?_
    refine va_get (ci := 5) (v := .ref y8) (C := R_Z) (T := T_Z) (N := 26) hx hb ht in_Z hown hK.1 hP 0 rfl rfl 14 (by decide) (ht _ k_fl_Z_31) (fun _ h9 => h9) rfl d_Z_pushed_66 ?_
    refine lv_iload_n hx hb d_Z_pushed_69 rfl (lv_at hl 1 rfl) ?_
    refine lv_iconst (v := 4) hx hb d_Z_pushed_70 (by decide) ?_
    refine lv_iadd hx hb d_Z_pushed_71 ?_
    refine va_iald hx hb hK.1 hP 8 0 rfl rfl (hq4 c_8).2.2 d_Z_pushed_72 ?_
    refine lv_ior hx hb d_Z_pushed_73 ?_
    rw [hQ]; exact retRi hx hb hr hlocks (by first | (simp only [zpsF, if_neg c_8]; done) | simp [zpsF, c_8]) d_Z_pushed_74
  · refine lv_aload_n hx hb d_Z_pushed_11 rfl (lv_at hl 0 rfl) ?_
    refine va_get (ci := 5) (v := .ref y8) (C := R_Z) (T := T_Z) (N := 26) hx hb ht in_Z hown hK.1 hP 0 rfl rfl 14 (by decide) (ht _ k_fl_Z_31) (fun _ h9 => h9) rfl d_Z_pushed_12 ?_
    refine lv_iload_n hx hb d_Z_pushed_15 rfl (lv_at hl 1 rfl) ?_
    refine lv_iconst (v := 1) hx hb d_Z_pushed_16 (by decide) ?_
    refine lv_iadd hx hb d_Z_pushed_17 ?_
    refine va_iald hx hb hK.1 hP 8 0 rfl rfl hq1 d_Z_pushed_18 ?_
    refine lv_sipush (v := 128) hx hb d_Z_pushed_19 (by decide) ?_
    refine lv_ixor hx hb d_Z_pushed_22 ?_
    refine lv_sipush (v := 128) hx hb d_Z_pushed_23 (by decide) ?_
    refine lv_isub hx hb d_Z_pushed_26 ?_
    refine lv_goto (tgt := 74) hx hb d_Z_pushed_27 (by decide) ?_
    rw [hQ]; exact retRi hx hb hr hlocks (by first | (simp only [zpsF, if_pos c_8]; done) | simp [zpsF, c_8]) d_Z_pushed_74

theorem byI_0 {b d : Fn} {bc kk at1 hg sp : Int32} {g p : FL} {RES : FL × Pi × Int32 × Int32} (hR : RB b bc d) (h : byI b bc d 0 kk at1 g p hg sp RES) : False := by
  obtain ⟨h0, h1, -, -, h5, h6, h7, h8, -⟩ := h
  have := hR.2.1
  omega
theorem byI_1 {b d : Fn} {bc kk at1 hg sp : Int32} {n : Nat} {g p : FL} {RES : FL × Pi × Int32 × Int32} (hR : RB b bc d) (h : byI b bc d (n + 1) kk at1 g p hg sp RES) : 1 ≤ n := by
  obtain ⟨h0, h1, -, -, h5, h6, h7, h8, -⟩ := h
  have := hR.2.1
  omega
theorem in8 {x : Int32} (h0 : 0 ≤ x.toInt) (h1 : x.toInt ≤ 4) : vp_in x 8 := vp_in_iff.mpr ⟨h0, by omega⟩
theorem in8m {x : Int32} (h0 : 1 ≤ x.toInt) (h1 : x.toInt ≤ 4) : vp_in (x + (-1)) 8 ∧ vp_in (x - 1) 8 := by
  rw [m1e]
  have e := i32_m (x := x) (by omega)
  exact ⟨vp_in_iff.mpr (by omega), vp_in_iff.mpr (by omega)⟩
theorem in8mm {x : Int32} (h0 : 2 ≤ x.toInt) (h1 : x.toInt ≤ 4) : vp_in (x + (-1) - 1) 8 := by
  rw [m1e]
  have e := i32_m (x := x) (by omega)
  have e2 := i32_m (x := x - 1) (by omega)
  exact vp_in_iff.mpr (by omega)
theorem tz1 {p : FL} {x : Int32} (h : 1 ≤ x.toInt) (c : lg_cmp (p (x - 1).toNatClampNeg) 0 = 0) : ¬ tzF (p, x) = 0 := by
  unfold tzF
  rw [if_neg (show ¬ (p, x).2 ≤ 0 by show ¬ x ≤ 0; rw [Int32.le_iff_toInt_le, Int32.toInt_zero]; omega), if_pos (show lg_cmp ((p, x).1 ((p, x).2 - 1).toNatClampNeg) 0 = 0 from c)]
  decide
theorem ar_c {c : Int32} (z : ¬ zcoF c = 0) (h10 : ¬ c = 10) (h2 : ¬ c = 2) (h9 : ¬ c = 9) (h1 : ¬ c = 1) (h3 : ¬ c = 3) (h16 : ¬ c = 16) : c = 4 ∨ c = 5 ∨ c = 6 ∨ c = 7 ∨ c = 8 := by
  rcases zco_c z with q | q | q | q | q | q | q | q | q | q | q
  · exact absurd q h1
  · exact absurd q h2
  · exact absurd q h3
  · exact Or.inl q
  · exact Or.inr (Or.inl q)
  · exact Or.inr (Or.inr (Or.inl q))
  · exact Or.inr (Or.inr (Or.inr (Or.inl q)))
  · exact Or.inr (Or.inr (Or.inr (Or.inr q)))
  · exact absurd q h9
  · exact absurd q h10
  · exact absurd q h16
theorem c37 {c : Int32} (h : c - 3 = 4) : c = 7 := by
  have := congrArg (fun x : Int32 => x + 3) h
  simp only [Int32.sub_add_cancel] at this
  exact this
theorem ta_ge {b d : Fn} {bc hg : Int32} {j : Nat} (h : RBa b bc d j) (e : hg = d j) : (ztaF (b j)).toInt ≤ hg.toInt := by
  have := h.2.2.2.1
  rw [Int32.lt_iff_toInt_lt, ← e] at this
  omega
theorem ixj {P : Prop} {k i : Int32} {j : Int32} {m : Int} (hk : 0 ≤ k.toInt ∧ k.toInt < 24 ∧ P) (hm : j.toInt = m) (m0 : 0 ≤ m) (h0 : 0 ≤ i.toInt) (h1 : i.toInt + m < 300) : (300 * k + i + j) = 300 * k + (i + j) ∧ 0 ≤ (i + j).toInt ∧ (i + j).toInt < 300 := by
  have e1 := ix300 hk (i := i) ⟨h0, by omega⟩
  have e2 : (i + j).toInt = i.toInt + m := by rw [i32_add (by omega) (by omega), hm]
  have e3 := ix300 hk (i := i + j) ⟨by omega, by omega⟩
  exact ⟨i32_ext (by rw [i32_add (by omega) (by omega), e3]; omega), by omega, by omega⟩
theorem vwj {P : Prop} {f : Fn} {k i j q : Int32} {m : Int} (hk : 0 ≤ k.toInt ∧ k.toInt < 24 ∧ P) (hq : q = 300 * k + i) (hm : j.toInt = m) (m0 : 0 ≤ m) (h0 : 0 ≤ i.toInt) (h1 : i.toInt + m < 300) : f (q + j).toNatClampNeg = vw 300 f k (i + j).toNatClampNeg ∧ vp_in (q + j) 7200 := by
  obtain ⟨e, a, b⟩ := ixj hk hm m0 h0 h1
  rw [hq, e]
  exact ⟨vw300 hk ⟨a, b⟩, in300 hk ⟨a, b⟩⟩
theorem zps16 {x0 x1 a b c a' b' c' : Int32} (h : x0 = 16) : zpsF x0 x1 a b c = zpsF x0 x1 a' b' c' := by unfold zpsF; rw [if_pos h, if_pos h]
theorem len_in {b d : Fn} {bc at1 : Int32} (h : RBa b bc d at1.toNatClampNeg) (h0 : 0 ≤ at1.toInt) : at1.toInt + (zleF (b at1.toNatClampNeg)).toInt ≤ bc.toInt := by
  have := h.2.1
  rw [clN h0] at this
  exact this

abbrev w_Z_runBytes : List Cond := .code y_Z_runBytes b_Z_runBytes 8 none :: BIG
set_option maxHeartbeats 1000000 in
set_option maxRecDepth 100000 in
theorem c_Z_runBytes (l : Launch) (D : va_G) (cI cL cO : ClassId) (z0 : Nat) (y1 : Nat) (y2 : Nat) (y3 : Nat) (y4 : Nat) (y5 : Nat) (y6 : Nat) (y7 : Nat) (y8 : Nat) (y9 : Nat) (y10 : Nat) (y11 : Nat) (y12 : Nat) (y13 : Nat) (y14 : Nat) (mn : Fn) (oo : Fn) (oa : Fn) (ob : Fn) (ss : Fn) (gg : Fn) (zz : Fn) (md : Fn) (sd : Fn) (da : Fn) (rg : FL) (pp : FL) (kp : FL) (ot : FL) (th : Int32) (li : Int32) (bl : Int32) (nw : Int32) (wr : Int32) (ru : Int32) (al : Int32) (sp : Int32) (en : Int32) (ke : Int32) (kb : Int32) (at0 : Int32) (fr : va_W) (k : Int32) (hzz : ∀ j, j < 24 → 0 ≤ (zz j).toInt ∧ (zz j).toInt ≤ 300) (hk : 0 ≤ k.toInt ∧ k.toInt < 24 ∧ True) (hY : okY (vw 300 md k)) (hvd : vdF (vw 300 md k) (zz k.toNatClampNeg) = 0) (hsp : sp = 0) (hen : en = 0) : CMv l y_Z_runBytes w_Z_runBytes ({ frames := 1, cells := 0, slots := 0, locals := 24 }) D cI cL cO [.ref z0, .int k] ((wZ cI cL z0 y1 y2 y3 y4 y5 y6 y7 y8 y9 y10 y11 y12 y13 y14 mn oo oa ob ss gg zz md sd da rg pp kp ot th li bl nw wr ru al sp en ke kb at0) ++ fr) (fun u : FL × FL × Int32 × Int32 => u.1 = (byL (vw 300 md k) (zz k.toNatClampNeg) 600301 0 0 rg (pp, 0) 0).1 ∧ u.2.2.1 = (byL (vw 300 md k) (zz k.toNatClampNeg) 600301 0 0 rg (pp, 0) 0).2.2.1 ∧ u.2.2.2 = (byL (vw 300 md k) (zz k.toNatClampNeg) 600301 0 0 rg (pp, 0) 0).2.2.2) (fun u : FL × FL × Int32 × Int32 => ((wZ cI cL z0 y1 y2 y3 y4 y5 y6 y7 y8 y9 y10 y11 y12 y13 y14 mn oo oa ob ss gg zz md sd da u.1 u.2.1 kp ot th li bl nw wr ru al u.2.2.1 u.2.2.2 ke kb at0) ++ fr)) 0 0 := by
  refine ofMv (cc := b_Z_runBytes) (maxL := 8) (ret := none) (by decide) rfl (Nat.le_of_ble_eq_true rfl) ?_
  intro p e s m below meth c A ls H Q hQ hx hb hr hlocks hin hts hown hml hP hK hD hS hA hl
  have hl : lv_has ls 8 [(0, .ref z0), (1, .int k)] := hl
  have hown : s.vm.findClass R_Z = some m.cls := hown
  have ht : ∀ w ∈ BIG, w.before _ s = true := fun w h => hts w (List.mem_cons_of_mem _ h)
  have hR := vd_RB (hzz _ (kc hk)).1 (hzz _ (kc hk)).2 hY hvd
  refine lv_sipush (v := 300) hx hb d_Z_runBytes_0 (by decide) ?_
  refine lv_iload_n hx hb d_Z_runBytes_3 rfl (lv_at hl 1 rfl) ?_
  refine lv_imul hx hb d_Z_runBytes_4 ?_
  refine lv_istore_n (lv' := [(2, .int (300 * k)), (0, .ref z0), (1, .int k)]) hx hb d_Z_runBytes_5 rfl hl (by decide) rfl (fun ls hl => ?_)
  refine lv_iload_n hx hb d_Z_runBytes_6 rfl (lv_at hl 0 rfl) ?_
  refine lv_istore_n (lv' := [(3, .int (300 * k)), (2, .int (300 * k)), (0, .ref z0), (1, .int k)]) hx hb d_Z_runBytes_7 rfl hl (by decide) rfl (fun ls hl => ?_)
  refine lv_iconst (v := 0) hx hb d_Z_runBytes_8 (by decide) ?_
  refine lv_istore (lv' := [(4, .int 0), (3, .int (300 * k)), (2, .int (300 * k)), (0, .ref z0), (1, .int k)]) hx hb d_Z_runBytes_9 hl (by decide) rfl (fun ls hl => ?_)
  refine lv_iconst (v := 0) hx hb d_Z_runBytes_11 (by decide) ?_
  refine lv_istore (lv' := [(5, .int 0), (4, .int 0), (3, .int (300 * k)), (2, .int (300 * k)), (0, .ref z0), (1, .int k)]) hx hb d_Z_runBytes_12 hl (by decide) rfl (fun ls hl => ?_)
  have lp : ∀ (n : Nat) (p1 : Int32) (nn : Int32) (is : Int32) (rg1 : FL) (pp1 : FL) (sp1 : Int32) (en1 : Int32) (at1 : Int32) (kk : Int32) (H : Heap) (locs : List Loc) (ls : Array Slot), ((en1 = 0 ∧ p1 = 300 * k + at1 ∧ (is = 0 → sp1.toInt < 2000) ∧ byI (vw 300 md k) (zz k.toNatClampNeg) (vcF (vw 300 md k) (zz k.toNatClampNeg)).2 n kk at1 rg1 pp1 nn sp1 (byL (vw 300 md k) (zz k.toNatClampNeg) 600301 0 0 rg (pp, 0) 0)) ∨ (¬ en1 = 0 ∧ rg1 = (byL (vw 300 md k) (zz k.toNatClampNeg) 600301 0 0 rg (pp, 0) 0).1 ∧ sp1 = (byL (vw 300 md k) (zz k.toNatClampNeg) 600301 0 0 rg (pp, 0) 0).2.2.1 ∧ en1 = (byL (vw 300 md k) (zz k.toNatClampNeg) 600301 0 0 rg (pp, 0) 0).2.2.2 ∧ 1 ≤ n)) → va_P D vwCl ((wZ cI cL z0 y1 y2 y3 y4 y5 y6 y7 y8 y9 y10 y11 y12 y13 y14 mn oo oa ob ss gg zz md sd da rg1 pp1 kp ot th li bl nw wr ru al sp1 en1 ke kb at0) ++ fr) H → va_D A ((wZ cI cL z0 y1 y2 y3 y4 y5 y6 y7 y8 y9 y10 y11 y12 y13 y14 mn oo oa ob ss gg zz md sd da rg1 pp1 kp ot th li bl nw wr ru al sp1 en1 ke kb at0) ++ fr) → va_S A s.heap H locs → lv_has ls 8 [(0, .ref z0), (1, .int k), (2, .int (300 * k)), (3, .int p1), (4, .int nn), (5, .int is)] → W p l e ({ frames := 1, cells := 0, slots := 0, locals := 24 } : Room) s m ([.ref z0, .int k] : List Value).toArray below meth c H locs 0 0 Q (F0 m 14 ls []) := by
    intro n
    induction n with
    | zero =>
      intro p1 nn is rg1 pp1 sp1 en1 at1 kk H locs ls hI hP hD hS hl
      rcases hI with h | h; exact (byI_0 hR h.2.2.2).elim; exact absurd h.2.2.2.2 (by omega)
    | succ n ih =>
      intro p1 nn is rg1 pp1 sp1 en1 at1 kk H locs ls hI hP hD hS hl
      refine lv_aload_n hx hb d_Z_runBytes_14 rfl (lv_at hl 0 rfl) ?_
      refine va_get (ci := 5) (v := .int en1) (C := R_Z) (T := T_Z) (N := 26) hx hb ht in_Z hown hK.1 hP 0 rfl rfl 20 (by decide) (ht _ k_fl_Z_127) (fun _ h9 => h9) rfl d_Z_runBytes_15 ?_
      refine lv_if_ne (tgt := 312) hx hb d_Z_runBytes_18 (by decide) (fun c_18 => ?_) (fun c_18 => ?_)
      · rw [hQ]; exact retMv (w1 := fun u : FL × FL × Int32 × Int32 => ((wZ cI cL z0 y1 y2 y3 y4 y5 y6 y7 y8 y9 y10 y11 y12 y13 y14 mn oo oa ob ss gg zz md sd da u.1 u.2.1 kp ot th li bl nw wr ru al u.2.2.1 u.2.2.2 ke kb at0) ++ fr)) (rg1, pp1, sp1, en1) hx hb hr hlocks hP hD hS (by have := hI.resolve_left (fun q => c_18 q.1); exact ⟨this.2.1, this.2.2.1, this.2.2.2.1⟩) d_Z_runBytes_312
      · obtain ⟨-, hp, his, hB⟩ := hI.resolve_right (fun q => q.1 c_18)
        obtain ⟨hRa, hg0, hg4, hge, ha0, ha1, hb3, hdd⟩ := hB.k hR
        have hlen := len_in hRa ha0
        have hcv3 : ∀ (md9 : Fn) (_ : p1 = 300 * k + at1) (_ : vw 300 md k at1.toNatClampNeg = 3), zpsF (md p1.toNatClampNeg) (md (p1 + 1).toNatClampNeg) (md (p1 + 2).toNatClampNeg) (md (p1 + 3).toNatClampNeg) (md (p1 + 4).toNatClampNeg) = zpsF (vw 300 md k at1.toNatClampNeg) (vw 300 md k (at1 + 1).toNatClampNeg) (vw 300 md k (at1 + 2).toNatClampNeg) (vw 300 md k (at1 + 3).toNatClampNeg) (vw 300 md k (at1 + 4).toNatClampNeg) := fun _ _ c3 => by
          rw [c3, show (zleF 3).toInt = 5 by decide] at hlen
          rw [show md p1.toNatClampNeg = vw 300 md k at1.toNatClampNeg by rw [hp]; exact vw300 hk ⟨ha0, by omega⟩, (vwj (f := md) hk hp (j := 1) (m := 1) (by decide) (by decide) ha0 (by omega)).1, (vwj (f := md) hk hp (j := 2) (m := 2) (by decide) (by decide) ha0 (by omega)).1, (vwj (f := md) hk hp (j := 3) (m := 3) (by decide) (by decide) ha0 (by omega)).1, (vwj (f := md) hk hp (j := 4) (m := 4) (by decide) (by decide) ha0 (by omega)).1]
        have hcv16 : ∀ (md9 : Fn) (_ : p1 = 300 * k + at1) (_ : vw 300 md k at1.toNatClampNeg = 16), zpsF (md p1.toNatClampNeg) (md (p1 + 1).toNatClampNeg) (md (p1 + 2).toNatClampNeg) (md (p1 + 3).toNatClampNeg) (md (p1 + 4).toNatClampNeg) = zpsF (vw 300 md k at1.toNatClampNeg) (vw 300 md k (at1 + 1).toNatClampNeg) 0 0 0 := fun _ _ c3 => by
          rw [c3, show (zleF 16).toInt = 2 by decide] at hlen
          rw [show md p1.toNatClampNeg = vw 300 md k at1.toNatClampNeg by rw [hp]; exact vw300 hk ⟨ha0, by omega⟩, (vwj (f := md) hk hp (j := 1) (m := 1) (by decide) (by decide) ha0 (by omega)).1]
          exact zps16 c3
        refine lv_aload_n hx hb d_Z_runBytes_21 rfl (lv_at hl 0 rfl) ?_
        refine va_get (ci := 5) (v := .ref y8) (C := R_Z) (T := T_Z) (N := 26) hx hb ht in_Z hown hK.1 hP 0 rfl rfl 14 (by decide) (ht _ k_fl_Z_31) (fun _ h9 => h9) rfl d_Z_runBytes_22 ?_
        refine lv_iload_n hx hb d_Z_runBytes_25 rfl (lv_at hl 3 rfl) ?_
        refine va_iald hx hb hK.1 hP 8 0 rfl rfl (by rw [hp]; exact in300 hk ⟨ha0, by omega⟩) d_Z_runBytes_26 ?_
        rw [show md p1.toNatClampNeg = vw 300 md k at1.toNatClampNeg from (by rw [hp]; exact vw300 hk ⟨ha0, by omega⟩)]
        refine lv_bipush (v := 10) hx hb d_Z_runBytes_27 (by decide) ?_
        refine lv_icmp_eq (tgt := 312) hx hb d_Z_runBytes_29 (by decide) (fun c_29 => ?_) (fun c_29 => ?_)
        · rw [hQ]; exact retMv (w1 := fun u : FL × FL × Int32 × Int32 => ((wZ cI cL z0 y1 y2 y3 y4 y5 y6 y7 y8 y9 y10 y11 y12 y13 y14 mn oo oa ob ss gg zz md sd da u.1 u.2.1 kp ot th li bl nw wr ru al u.2.2.1 u.2.2.2 ke kb at0) ++ fr)) (rg1, pp1, sp1, en1) hx hb hr hlocks hP hD hS (by have := byI_e hR hB c_29; exact ⟨congrArg (·.1) this, congrArg (·.2.2.1) this, c_18.trans (congrArg (·.2.2.2) this)⟩) d_Z_runBytes_312
        · refine lv_aload_n hx hb d_Z_runBytes_32 rfl (lv_at hl 0 rfl) ?_
          refine va_get (ci := 5) (v := .ref y8) (C := R_Z) (T := T_Z) (N := 26) hx hb ht in_Z hown hK.1 hP 0 rfl rfl 14 (by decide) (ht _ k_fl_Z_31) (fun _ h9 => h9) rfl d_Z_runBytes_33 ?_
          refine lv_iload_n hx hb d_Z_runBytes_36 rfl (lv_at hl 3 rfl) ?_
          refine va_iald hx hb hK.1 hP 8 0 rfl rfl (by rw [hp]; exact in300 hk ⟨ha0, by omega⟩) d_Z_runBytes_37 ?_
          rw [show md p1.toNatClampNeg = vw 300 md k at1.toNatClampNeg from (by rw [hp]; exact vw300 hk ⟨ha0, by omega⟩)]
          refine lv_istore (lv' := [(6, .int (vw 300 md k at1.toNatClampNeg)), (0, .ref z0), (1, .int k), (2, .int (300 * k)), (3, .int p1), (4, .int nn), (5, .int is)]) hx hb d_Z_runBytes_38 hl (by decide) rfl (fun ls hl => ?_)
          refine lv_iload hx hb d_Z_runBytes_40 (lv_at hl 6 rfl) ?_
          refine lv_if_eq (tgt := 61) hx hb d_Z_runBytes_42 (by decide) (fun c_42 => ?_) (fun c_42 => ?_)
          · refine lv_iload hx hb d_Z_runBytes_61 (lv_at hl 0 rfl) ?_
            refine lv_iconst (v := 2) hx hb d_Z_runBytes_63 (by decide) ?_
            refine lv_icmp_eq (tgt := 74) hx hb d_Z_runBytes_64 (by decide) (fun c_64 => ?_) (fun c_64 => ?_)
            · refine lv_iconst (v := 1) hx hb d_Z_runBytes_74 (by decide) ?_
              refine lv_goto (tgt := 79) hx hb d_Z_runBytes_75 (by decide) ?_
              refine lv_istore (lv' := [(5, .int 1), (6, .int (vw 300 md k at1.toNatClampNeg)), (0, .ref z0), (1, .int k), (2, .int (300 * k)), (3, .int p1), (4, .int nn)]) hx hb d_Z_runBytes_79 hl (by decide) rfl (fun ls hl => ?_)
              refine lv_iload_n hx hb d_Z_runBytes_81 rfl (lv_at hl 5 rfl) ?_
              refine lv_iload hx hb d_Z_runBytes_82 (lv_at hl 1 rfl) ?_
              refine goRi (va_runS (As := [.int (vw 300 md k at1.toNatClampNeg)]) (rest := [.int p1]) ⟨hx, hb, hml, hown, hts⟩ (c_Z_lengthOf l D cI cL cO (vw 300 md k at1.toNatClampNeg)) (cwS 1 hts (gBIG (m3 k_ml_Z_102 k_st_Z_lengthOf k_ini_Z) k_co_Z_lengthOf) rfl rfl rfl (by decide +kernel) ⟨Nat.le_of_ble_eq_true rfl, Nat.le_of_ble_eq_true rfl⟩) ⟨PR.bl, PR.pre P_nil hK⟩ rfl rfl hl.1 rfl (lv_room (Nat.le_of_ble_eq_true rfl)) d_Z_runBytes_84 ⟨Nat.le_of_ble_eq_true rfl, Nat.le_of_ble_eq_true rfl⟩) ?_
              refine lv_iadd hx hb d_Z_runBytes_87 ?_
              refine lv_istore (lv' := [(7, .int (p1 + (zleF (vw 300 md k at1.toNatClampNeg)))), (5, .int 1), (6, .int (vw 300 md k at1.toNatClampNeg)), (0, .ref z0), (1, .int k), (2, .int (300 * k)), (3, .int p1), (4, .int nn)]) hx hb d_Z_runBytes_88 hl (by decide) rfl (fun ls hl => ?_)
              refine lv_iload hx hb d_Z_runBytes_90 (lv_at hl 2 rfl) ?_
              refine lv_iconst (v := 1) hx hb d_Z_runBytes_92 (by decide) ?_
              refine lv_icmp_eq (tgt := 109) hx hb d_Z_runBytes_93 (by decide) (fun c_93 => ?_) (fun c_93 => ?_)
              · refine lv_aload_n hx hb d_Z_runBytes_109 rfl (lv_at hl 3 rfl) ?_
                refine va_get (ci := 5) (v := .ref y12) (C := R_Z) (T := T_Z) (N := 26) hx hb ht in_Z hown hK.1 hP 0 rfl rfl 18 (by decide) (ht _ k_fl_Z_44) (fun _ h9 => h9) rfl d_Z_runBytes_110 ?_
                refine lv_iload hx hb d_Z_runBytes_113 (lv_at hl 7 rfl) ?_
                refine lv_iload hx hb d_Z_runBytes_115 (lv_at hl 2 rfl) ?_
                refine lv_iconst (v := 1) hx hb d_Z_runBytes_117 (by decide) ?_
                refine lv_icmp_ne (tgt := 137) hx hb d_Z_runBytes_118 (by decide) (fun c_118 => ?_) (fun c_118 => ?_)
                · exact absurd c_93 c_118
                · refine lv_aload_n hx hb d_Z_runBytes_121 rfl (lv_at hl 3 rfl) ?_
                  refine va_get (ci := 5) (v := .ref y11) (C := R_Z) (T := T_Z) (N := 26) hx hb ht in_Z hown hK.1 hP 0 rfl rfl 17 (by decide) (ht _ k_fl_Z_40) (fun _ h9 => h9) rfl d_Z_runBytes_122 ?_
                  refine lv_aload_n hx hb d_Z_runBytes_125 rfl (lv_at hl 3 rfl) ?_
                  refine va_get (ci := 5) (v := .ref y8) (C := R_Z) (T := T_Z) (N := 26) hx hb ht in_Z hown hK.1 hP 0 rfl rfl 14 (by decide) (ht _ k_fl_Z_31) (fun _ h9 => h9) rfl d_Z_runBytes_126 ?_
                  refine lv_iload_n hx hb d_Z_runBytes_129 rfl (lv_at hl 6 rfl) ?_
                  refine lv_iconst (v := 1) hx hb d_Z_runBytes_130 (by decide) ?_
                  refine lv_iadd hx hb d_Z_runBytes_131 ?_
                  refine va_iald hx hb hK.1 hP 8 0 rfl rfl (vwj (f := md) hk hp (j := 1) (m := 1) (by decide) (by decide) ha0 (by have := (op_r hY hR hB (Or.inl c_93)).1; omega)).2 d_Z_runBytes_132 ?_
                  rw [show md (p1 + 1).toNatClampNeg = vw 300 md k (at1 + 1).toNatClampNeg from (vwj (f := md) hk hp (j := 1) (m := 1) (by decide) (by decide) ha0 (by have := (op_r hY hR hB (Or.inl c_93)).1; omega)).1]
                  refine va_lald hx hb hK.1 hP 11 1 rfl rfl (in4 (op_r hY hR hB (Or.inl c_93)).2.2) d_Z_runBytes_133 ?_
                  refine lv_goto (tgt := 143) hx hb d_Z_runBytes_134 (by decide) ?_
                  refine va_last hx hb hK.1 hP hD hS 12 1 rfl rfl (in8 hg0 hg4) d_Z_runBytes_143 (fun H locs hP hD hS => ?_)
                  have hP : va_P D vwCl ((wZ cI cL z0 y1 y2 y3 y4 y5 y6 y7 y8 y9 y10 y11 y12 y13 y14 mn oo oa ob ss gg zz md sd da rg1 (vp_updL pp1 nn.toNatClampNeg (rg1 (vw 300 md k (at1 + 1).toNatClampNeg).toNatClampNeg)) kp ot th li bl nw wr ru al sp1 en1 ke kb at0) ++ fr) H := hP
                  have hD : va_D A ((wZ cI cL z0 y1 y2 y3 y4 y5 y6 y7 y8 y9 y10 y11 y12 y13 y14 mn oo oa ob ss gg zz md sd da rg1 (vp_updL pp1 nn.toNatClampNeg (rg1 (vw 300 md k (at1 + 1).toNatClampNeg).toNatClampNeg)) kp ot th li bl nw wr ru al sp1 en1 ke kb at0) ++ fr) := hD
                  refine lv_iinc (v := nn + 1) (lv' := [(4, .int (nn + 1)), (7, .int (p1 + (zleF (vw 300 md k at1.toNatClampNeg)))), (5, .int 1), (6, .int (vw 300 md k at1.toNatClampNeg)), (0, .ref z0), (1, .int k), (2, .int (300 * k)), (3, .int p1)]) hx hb d_Z_runBytes_144 hl (k := 7) rfl rfl (by decide) rfl (fun ls hl => ?_)
                  refine lv_goto (tgt := 306) hx hb d_Z_runBytes_147 (by decide) ?_
                  refine lv_iload hx hb d_Z_runBytes_306 (lv_at hl 1 rfl) ?_
                  refine lv_istore_n (lv' := [(3, .int (p1 + (zleF (vw 300 md k at1.toNatClampNeg)))), (4, .int (nn + 1)), (7, .int (p1 + (zleF (vw 300 md k at1.toNatClampNeg)))), (5, .int 1), (6, .int (vw 300 md k at1.toNatClampNeg)), (0, .ref z0), (1, .int k), (2, .int (300 * k))]) hx hb d_Z_runBytes_308 rfl hl (by decide) rfl (fun ls hl => ?_)
                  refine lv_goto (tgt := 14) hx hb d_Z_runBytes_309 (by decide) ?_
                  exact ih (p1 + (zleF (vw 300 md k at1.toNatClampNeg))) (nn + 1) 1 rg1 (vp_updL pp1 nn.toNatClampNeg (rg1 (vw 300 md k (at1 + 1).toNatClampNeg).toNatClampNeg)) sp1 en1 (at1 + zleF (vw 300 md k at1.toNatClampNeg)) (kk + 1) _ _ ls (Or.inl ⟨c_18, (by rw [hp, Int32.add_assoc]), (fun z => absurd z (by decide)), byC_1 hY hR hB (his c_42) c_93⟩) hP hD hS (lv_sub hl [5, 6, 7, 0, 1, 3] rfl)
              · refine lv_iload hx hb d_Z_runBytes_96 (lv_at hl 2 rfl) ?_
                refine lv_iconst (v := 3) hx hb d_Z_runBytes_98 (by decide) ?_
                refine lv_icmp_eq (tgt := 109) hx hb d_Z_runBytes_99 (by decide) (fun c_99 => ?_) (fun c_99 => ?_)
                · refine lv_aload_n hx hb d_Z_runBytes_109 rfl (lv_at hl 3 rfl) ?_
                  refine va_get (ci := 5) (v := .ref y12) (C := R_Z) (T := T_Z) (N := 26) hx hb ht in_Z hown hK.1 hP 0 rfl rfl 18 (by decide) (ht _ k_fl_Z_44) (fun _ h9 => h9) rfl d_Z_runBytes_110 ?_
                  refine lv_iload hx hb d_Z_runBytes_113 (lv_at hl 7 rfl) ?_
                  refine lv_iload hx hb d_Z_runBytes_115 (lv_at hl 2 rfl) ?_
                  refine lv_iconst (v := 1) hx hb d_Z_runBytes_117 (by decide) ?_
                  refine lv_icmp_ne (tgt := 137) hx hb d_Z_runBytes_118 (by decide) (fun c_118 => ?_) (fun c_118 => ?_)
                  · refine lv_aload_n hx hb d_Z_runBytes_137 rfl (lv_at hl 3 rfl) ?_
                    refine lv_iload_n hx hb d_Z_runBytes_138 rfl (lv_at hl 6 rfl) ?_
                    refine goRi (va_runV (As := [.int p1]) (rest := [.int nn, .ref y12]) ⟨hx, hb, hml, hown, hts⟩ (c_Z_pushed l D cI cL cO z0 y1 y2 y3 y4 y5 y6 y7 y8 y9 y10 y11 y12 y13 y14 mn oo oa ob ss gg zz md sd da rg1 pp1 kp ot th li bl nw wr ru al sp1 en1 ke kb at0 p1 (by rw [hp]; exact in300 hk ⟨ha0, by omega⟩) (by have hl := hlen; rw [c_99, show (zleF 3).toInt = 5 by decide] at hl; exact (vwj (f := md) hk hp (j := 1) (m := 1) (by decide) (by decide) ha0 (by omega)).2) (fun _ => by have hl := hlen; rw [c_99, show (zleF 3).toInt = 5 by decide] at hl; exact ⟨(vwj (f := md) hk hp (j := 2) (m := 2) (by decide) (by decide) ha0 (by omega)).2, (vwj (f := md) hk hp (j := 3) (m := 3) (by decide) (by decide) ha0 (by omega)).2, (vwj (f := md) hk hp (j := 4) (m := 4) (by decide) (by decide) ha0 (by omega)).2⟩)) (cwV 1 hts (gBIG (m4 k_ml_Z_134 k_im_Z_pushed k_sel_Z_pushed k_ini_Z) k_co_Z_pushed) rfl rfl rfl (by decide +kernel) ⟨Nat.le_of_ble_eq_true rfl, Nat.le_of_ble_eq_true rfl⟩) ⟨PR.bl, va_recv hK.1 ((P_app.mp hP).1) (ci := 5) (q0 := 0) rfl rfl, PR.pre ((P_app.mp hP).1) hK⟩ rfl rfl hl.1 rfl (lv_room (Nat.le_of_ble_eq_true rfl)) d_Z_runBytes_139 ⟨Nat.le_of_ble_eq_true rfl, Nat.le_of_ble_eq_true rfl⟩) ?_
                    refine lv_i2l (v := (zpsF (md p1.toNatClampNeg) (md (p1 + 1).toNatClampNeg) (md (p1 + 2).toNatClampNeg) (md (p1 + 3).toNatClampNeg) (md (p1 + 4).toNatClampNeg)).toInt64) hx hb d_Z_runBytes_142 rfl ?_
                    refine va_last hx hb hK.1 hP hD hS 12 1 rfl rfl (in8 hg0 hg4) d_Z_runBytes_143 (fun H locs hP hD hS => ?_)
                    have hP : va_P D vwCl ((wZ cI cL z0 y1 y2 y3 y4 y5 y6 y7 y8 y9 y10 y11 y12 y13 y14 mn oo oa ob ss gg zz md sd da rg1 (vp_updL pp1 nn.toNatClampNeg ((zpsF (md p1.toNatClampNeg) (md (p1 + 1).toNatClampNeg) (md (p1 + 2).toNatClampNeg) (md (p1 + 3).toNatClampNeg) (md (p1 + 4).toNatClampNeg)).toInt64)) kp ot th li bl nw wr ru al sp1 en1 ke kb at0) ++ fr) H := hP
                    have hD : va_D A ((wZ cI cL z0 y1 y2 y3 y4 y5 y6 y7 y8 y9 y10 y11 y12 y13 y14 mn oo oa ob ss gg zz md sd da rg1 (vp_updL pp1 nn.toNatClampNeg ((zpsF (md p1.toNatClampNeg) (md (p1 + 1).toNatClampNeg) (md (p1 + 2).toNatClampNeg) (md (p1 + 3).toNatClampNeg) (md (p1 + 4).toNatClampNeg)).toInt64)) kp ot th li bl nw wr ru al sp1 en1 ke kb at0) ++ fr) := hD
                    refine lv_iinc (v := nn + 1) (lv' := [(4, .int (nn + 1)), (7, .int (p1 + (zleF (vw 300 md k at1.toNatClampNeg)))), (5, .int 1), (6, .int (vw 300 md k at1.toNatClampNeg)), (0, .ref z0), (1, .int k), (2, .int (300 * k)), (3, .int p1)]) hx hb d_Z_runBytes_144 hl (k := 7) rfl rfl (by decide) rfl (fun ls hl => ?_)
                    refine lv_goto (tgt := 306) hx hb d_Z_runBytes_147 (by decide) ?_
                    refine lv_iload hx hb d_Z_runBytes_306 (lv_at hl 1 rfl) ?_
                    refine lv_istore_n (lv' := [(3, .int (p1 + (zleF (vw 300 md k at1.toNatClampNeg)))), (4, .int (nn + 1)), (7, .int (p1 + (zleF (vw 300 md k at1.toNatClampNeg)))), (5, .int 1), (6, .int (vw 300 md k at1.toNatClampNeg)), (0, .ref z0), (1, .int k), (2, .int (300 * k))]) hx hb d_Z_runBytes_308 rfl hl (by decide) rfl (fun ls hl => ?_)
                    refine lv_goto (tgt := 14) hx hb d_Z_runBytes_309 (by decide) ?_
                    exact ih (p1 + (zleF (vw 300 md k at1.toNatClampNeg))) (nn + 1) 1 rg1 (vp_updL pp1 nn.toNatClampNeg ((zpsF (md p1.toNatClampNeg) (md (p1 + 1).toNatClampNeg) (md (p1 + 2).toNatClampNeg) (md (p1 + 3).toNatClampNeg) (md (p1 + 4).toNatClampNeg)).toInt64)) sp1 en1 (at1 + zleF (vw 300 md k at1.toNatClampNeg)) (kk + 1) _ _ ls (Or.inl ⟨c_18, (by rw [hp, Int32.add_assoc]), (fun z => absurd z (by decide)), (by rw [hcv3 md hp c_99]; exact byC_3 hY hR hB (his c_42) c_99)⟩) hP hD hS (lv_sub hl [5, 6, 7, 0, 1, 3] rfl)
                  · exact absurd c_118 c_93
                · refine lv_iload hx hb d_Z_runBytes_102 (lv_at hl 2 rfl) ?_
                  refine lv_bipush (v := 16) hx hb d_Z_runBytes_104 (by decide) ?_
                  refine lv_icmp_ne (tgt := 150) hx hb d_Z_runBytes_106 (by decide) (fun c_106 => ?_) (fun c_106 => ?_)
                  · refine lv_iload hx hb d_Z_runBytes_150 (lv_at hl 1 rfl) ?_
                    refine lv_if_eq (tgt := 242) hx hb d_Z_runBytes_152 (by decide) (fun c_152 => ?_) (fun c_152 => ?_)
                    · exact absurd c_152 (by decide)
                    · refine lv_iinc (v := nn + (-1)) (lv' := [(4, .int (nn + (-1))), (7, .int (p1 + (zleF (vw 300 md k at1.toNatClampNeg)))), (5, .int 1), (6, .int (vw 300 md k at1.toNatClampNeg)), (0, .ref z0), (1, .int k), (2, .int (300 * k)), (3, .int p1)]) hx hb d_Z_runBytes_155 hl (k := 7) rfl rfl (by decide) rfl (fun ls hl => ?_)
                      refine lv_aload_n hx hb d_Z_runBytes_158 rfl (lv_at hl 4 rfl) ?_
                      refine lv_dup hx hb d_Z_runBytes_159 rfl ?_
                      refine va_get (ci := 5) (v := .int sp1) (C := R_Z) (T := T_Z) (N := 26) hx hb ht in_Z hown hK.1 hP 0 rfl rfl 19 (by decide) (ht _ k_fl_Z_124) (fun _ h9 => h9) rfl d_Z_runBytes_160 ?_
                      refine lv_iconst (v := 1) hx hb d_Z_runBytes_163 (by decide) ?_
                      refine lv_iadd hx hb d_Z_runBytes_164 ?_
                      refine va_put (ci := 5) (v := .int (sp1 + 1)) (ty := .int) (C := R_Z) (T := T_Z) (N := 26) hx hb ht in_Z t_Z t_Z_ok n_Z hown hK.1 hP hD hS 0 rfl rfl 19 (by decide) (ht _ k_fl_Z_124) (fun _ h9 => h9) rfl (by decide +kernel) rfl rfl (Nat.le_of_ble_eq_true rfl) d_Z_runBytes_165 (fun H locs hP hD hS => ?_)
                      have hP : va_P D vwCl ((wZ cI cL z0 y1 y2 y3 y4 y5 y6 y7 y8 y9 y10 y11 y12 y13 y14 mn oo oa ob ss gg zz md sd da rg1 pp1 kp ot th li bl nw wr ru al (sp1 + 1) en1 ke kb at0) ++ fr) H := hP
                      have hD : va_D A ((wZ cI cL z0 y1 y2 y3 y4 y5 y6 y7 y8 y9 y10 y11 y12 y13 y14 mn oo oa ob ss gg zz md sd da rg1 pp1 kp ot th li bl nw wr ru al (sp1 + 1) en1 ke kb at0) ++ fr) := hD
                      refine lv_iload hx hb d_Z_runBytes_168 (lv_at hl 3 rfl) ?_
                      refine lv_iconst (v := 2) hx hb d_Z_runBytes_170 (by decide) ?_
                      refine lv_icmp_ne (tgt := 197) hx hb d_Z_runBytes_171 (by decide) (fun c_171 => ?_) (fun c_171 => ?_)
                      · exact absurd c_64 c_171
                      · refine lv_aload_n hx hb d_Z_runBytes_174 rfl (lv_at hl 4 rfl) ?_
                        refine va_get (ci := 5) (v := .ref y11) (C := R_Z) (T := T_Z) (N := 26) hx hb ht in_Z hown hK.1 hP 0 rfl rfl 17 (by decide) (ht _ k_fl_Z_40) (fun _ h9 => h9) rfl d_Z_runBytes_175 ?_
                        refine lv_aload_n hx hb d_Z_runBytes_178 rfl (lv_at hl 4 rfl) ?_
                        refine va_get (ci := 5) (v := .ref y8) (C := R_Z) (T := T_Z) (N := 26) hx hb ht in_Z hown hK.1 hP 0 rfl rfl 14 (by decide) (ht _ k_fl_Z_31) (fun _ h9 => h9) rfl d_Z_runBytes_179 ?_
                        refine lv_iload_n hx hb d_Z_runBytes_182 rfl (lv_at hl 7 rfl) ?_
                        refine lv_iconst (v := 1) hx hb d_Z_runBytes_183 (by decide) ?_
                        refine lv_iadd hx hb d_Z_runBytes_184 ?_
                        refine va_iald hx hb hK.1 hP 8 0 rfl rfl (vwj (f := md) hk hp (j := 1) (m := 1) (by decide) (by decide) ha0 (by have := (op_r hY hR hB (Or.inr c_64)).1; omega)).2 d_Z_runBytes_185 ?_
                        rw [show md (p1 + 1).toNatClampNeg = vw 300 md k (at1 + 1).toNatClampNeg from (vwj (f := md) hk hp (j := 1) (m := 1) (by decide) (by decide) ha0 (by have := (op_r hY hR hB (Or.inr c_64)).1; omega)).1]
                        refine lv_aload_n hx hb d_Z_runBytes_186 rfl (lv_at hl 4 rfl) ?_
                        refine va_get (ci := 5) (v := .ref y12) (C := R_Z) (T := T_Z) (N := 26) hx hb ht in_Z hown hK.1 hP 0 rfl rfl 18 (by decide) (ht _ k_fl_Z_44) (fun _ h9 => h9) rfl d_Z_runBytes_187 ?_
                        refine lv_iload hx hb d_Z_runBytes_190 (lv_at hl 0 rfl) ?_
                        refine va_lald hx hb hK.1 hP 12 1 rfl rfl (in8m (by have := ta_ge hRa hge; rw [c_64, show (ztaF 2).toInt = 1 by decide] at this; omega) hg4).1 d_Z_runBytes_192 ?_
                        refine va_last hx hb hK.1 hP hD hS 11 1 rfl rfl (in4 (op_r hY hR hB (Or.inr c_64)).2.2) d_Z_runBytes_193 (fun H locs hP hD hS => ?_)
                        have hP : va_P D vwCl ((wZ cI cL z0 y1 y2 y3 y4 y5 y6 y7 y8 y9 y10 y11 y12 y13 y14 mn oo oa ob ss gg zz md sd da (vp_updL rg1 (vw 300 md k (at1 + 1).toNatClampNeg).toNatClampNeg (pp1 (nn + (-1)).toNatClampNeg)) pp1 kp ot th li bl nw wr ru al (sp1 + 1) en1 ke kb at0) ++ fr) H := hP
                        have hD : va_D A ((wZ cI cL z0 y1 y2 y3 y4 y5 y6 y7 y8 y9 y10 y11 y12 y13 y14 mn oo oa ob ss gg zz md sd da (vp_updL rg1 (vw 300 md k (at1 + 1).toNatClampNeg).toNatClampNeg (pp1 (nn + (-1)).toNatClampNeg)) pp1 kp ot th li bl nw wr ru al (sp1 + 1) en1 ke kb at0) ++ fr) := hD
                        refine lv_goto (tgt := 306) hx hb d_Z_runBytes_194 (by decide) ?_
                        refine lv_iload hx hb d_Z_runBytes_306 (lv_at hl 1 rfl) ?_
                        refine lv_istore_n (lv' := [(3, .int (p1 + (zleF (vw 300 md k at1.toNatClampNeg)))), (4, .int (nn + (-1))), (7, .int (p1 + (zleF (vw 300 md k at1.toNatClampNeg)))), (5, .int 1), (6, .int (vw 300 md k at1.toNatClampNeg)), (0, .ref z0), (1, .int k), (2, .int (300 * k))]) hx hb d_Z_runBytes_308 rfl hl (by decide) rfl (fun ls hl => ?_)
                        refine lv_goto (tgt := 14) hx hb d_Z_runBytes_309 (by decide) ?_
                        exact ih (p1 + (zleF (vw 300 md k at1.toNatClampNeg))) (nn + (-1)) 1 (vp_updL rg1 (vw 300 md k (at1 + 1).toNatClampNeg).toNatClampNeg (pp1 (nn + (-1)).toNatClampNeg)) pp1 (sp1 + 1) en1 (at1 + zleF (vw 300 md k at1.toNatClampNeg)) (kk + 1) _ _ ls (Or.inl ⟨c_18, (by rw [hp, Int32.add_assoc]), (fun z => absurd z (by decide)), byC_2 hY hR hB (his c_42) c_64⟩) hP hD hS (lv_sub hl [5, 6, 7, 0, 1, 3] rfl)
                  · refine lv_aload_n hx hb d_Z_runBytes_109 rfl (lv_at hl 3 rfl) ?_
                    refine va_get (ci := 5) (v := .ref y12) (C := R_Z) (T := T_Z) (N := 26) hx hb ht in_Z hown hK.1 hP 0 rfl rfl 18 (by decide) (ht _ k_fl_Z_44) (fun _ h9 => h9) rfl d_Z_runBytes_110 ?_
                    refine lv_iload hx hb d_Z_runBytes_113 (lv_at hl 7 rfl) ?_
                    refine lv_iload hx hb d_Z_runBytes_115 (lv_at hl 2 rfl) ?_
                    refine lv_iconst (v := 1) hx hb d_Z_runBytes_117 (by decide) ?_
                    refine lv_icmp_ne (tgt := 137) hx hb d_Z_runBytes_118 (by decide) (fun c_118 => ?_) (fun c_118 => ?_)
                    · refine lv_aload_n hx hb d_Z_runBytes_137 rfl (lv_at hl 3 rfl) ?_
                      refine lv_iload_n hx hb d_Z_runBytes_138 rfl (lv_at hl 6 rfl) ?_
                      refine goRi (va_runV (As := [.int p1]) (rest := [.int nn, .ref y12]) ⟨hx, hb, hml, hown, hts⟩ (c_Z_pushed l D cI cL cO z0 y1 y2 y3 y4 y5 y6 y7 y8 y9 y10 y11 y12 y13 y14 mn oo oa ob ss gg zz md sd da rg1 pp1 kp ot th li bl nw wr ru al sp1 en1 ke kb at0 p1 (by rw [hp]; exact in300 hk ⟨ha0, by omega⟩) (by have hl := hlen; rw [c_106, show (zleF 16).toInt = 2 by decide] at hl; exact (vwj (f := md) hk hp (j := 1) (m := 1) (by decide) (by decide) ha0 (by omega)).2) (fun z => absurd (show md p1.toNatClampNeg = 16 by rw [show md p1.toNatClampNeg = vw 300 md k at1.toNatClampNeg from (by rw [hp]; exact vw300 hk ⟨ha0, by omega⟩)]; exact c_106) z)) (cwV 1 hts (gBIG (m4 k_ml_Z_134 k_im_Z_pushed k_sel_Z_pushed k_ini_Z) k_co_Z_pushed) rfl rfl rfl (by decide +kernel) ⟨Nat.le_of_ble_eq_true rfl, Nat.le_of_ble_eq_true rfl⟩) ⟨PR.bl, va_recv hK.1 ((P_app.mp hP).1) (ci := 5) (q0 := 0) rfl rfl, PR.pre ((P_app.mp hP).1) hK⟩ rfl rfl hl.1 rfl (lv_room (Nat.le_of_ble_eq_true rfl)) d_Z_runBytes_139 ⟨Nat.le_of_ble_eq_true rfl, Nat.le_of_ble_eq_true rfl⟩) ?_
                      refine lv_i2l (v := (zpsF (md p1.toNatClampNeg) (md (p1 + 1).toNatClampNeg) (md (p1 + 2).toNatClampNeg) (md (p1 + 3).toNatClampNeg) (md (p1 + 4).toNatClampNeg)).toInt64) hx hb d_Z_runBytes_142 rfl ?_
                      refine va_last hx hb hK.1 hP hD hS 12 1 rfl rfl (in8 hg0 hg4) d_Z_runBytes_143 (fun H locs hP hD hS => ?_)
                      have hP : va_P D vwCl ((wZ cI cL z0 y1 y2 y3 y4 y5 y6 y7 y8 y9 y10 y11 y12 y13 y14 mn oo oa ob ss gg zz md sd da rg1 (vp_updL pp1 nn.toNatClampNeg ((zpsF (md p1.toNatClampNeg) (md (p1 + 1).toNatClampNeg) (md (p1 + 2).toNatClampNeg) (md (p1 + 3).toNatClampNeg) (md (p1 + 4).toNatClampNeg)).toInt64)) kp ot th li bl nw wr ru al sp1 en1 ke kb at0) ++ fr) H := hP
                      have hD : va_D A ((wZ cI cL z0 y1 y2 y3 y4 y5 y6 y7 y8 y9 y10 y11 y12 y13 y14 mn oo oa ob ss gg zz md sd da rg1 (vp_updL pp1 nn.toNatClampNeg ((zpsF (md p1.toNatClampNeg) (md (p1 + 1).toNatClampNeg) (md (p1 + 2).toNatClampNeg) (md (p1 + 3).toNatClampNeg) (md (p1 + 4).toNatClampNeg)).toInt64)) kp ot th li bl nw wr ru al sp1 en1 ke kb at0) ++ fr) := hD
                      refine lv_iinc (v := nn + 1) (lv' := [(4, .int (nn + 1)), (7, .int (p1 + (zleF (vw 300 md k at1.toNatClampNeg)))), (5, .int 1), (6, .int (vw 300 md k at1.toNatClampNeg)), (0, .ref z0), (1, .int k), (2, .int (300 * k)), (3, .int p1)]) hx hb d_Z_runBytes_144 hl (k := 7) rfl rfl (by decide) rfl (fun ls hl => ?_)
                      refine lv_goto (tgt := 306) hx hb d_Z_runBytes_147 (by decide) ?_
                      refine lv_iload hx hb d_Z_runBytes_306 (lv_at hl 1 rfl) ?_
                      refine lv_istore_n (lv' := [(3, .int (p1 + (zleF (vw 300 md k at1.toNatClampNeg)))), (4, .int (nn + 1)), (7, .int (p1 + (zleF (vw 300 md k at1.toNatClampNeg)))), (5, .int 1), (6, .int (vw 300 md k at1.toNatClampNeg)), (0, .ref z0), (1, .int k), (2, .int (300 * k))]) hx hb d_Z_runBytes_308 rfl hl (by decide) rfl (fun ls hl => ?_)
                      refine lv_goto (tgt := 14) hx hb d_Z_runBytes_309 (by decide) ?_
                      exact ih (p1 + (zleF (vw 300 md k at1.toNatClampNeg))) (nn + 1) 1 rg1 (vp_updL pp1 nn.toNatClampNeg ((zpsF (md p1.toNatClampNeg) (md (p1 + 1).toNatClampNeg) (md (p1 + 2).toNatClampNeg) (md (p1 + 3).toNatClampNeg) (md (p1 + 4).toNatClampNeg)).toInt64)) sp1 en1 (at1 + zleF (vw 300 md k at1.toNatClampNeg)) (kk + 1) _ _ ls (Or.inl ⟨c_18, (by rw [hp, Int32.add_assoc]), (fun z => absurd z (by decide)), (by rw [hcv16 md hp c_106]; exact byC_16 hY hR hB (his c_42) c_106)⟩) hP hD hS (lv_sub hl [5, 6, 7, 0, 1, 3] rfl)
                    · exact absurd c_118 c_93
            · refine lv_iload hx hb d_Z_runBytes_67 (lv_at hl 0 rfl) ?_
              refine lv_bipush (v := 9) hx hb d_Z_runBytes_69 (by decide) ?_
              refine lv_icmp_ne (tgt := 78) hx hb d_Z_runBytes_71 (by decide) (fun c_71 => ?_) (fun c_71 => ?_)
              · refine lv_iconst (v := 0) hx hb d_Z_runBytes_78 (by decide) ?_
                refine lv_istore (lv' := [(5, .int 0), (6, .int (vw 300 md k at1.toNatClampNeg)), (0, .ref z0), (1, .int k), (2, .int (300 * k)), (3, .int p1), (4, .int nn)]) hx hb d_Z_runBytes_79 hl (by decide) rfl (fun ls hl => ?_)
                refine lv_iload_n hx hb d_Z_runBytes_81 rfl (lv_at hl 5 rfl) ?_
                refine lv_iload hx hb d_Z_runBytes_82 (lv_at hl 1 rfl) ?_
                refine goRi (va_runS (As := [.int (vw 300 md k at1.toNatClampNeg)]) (rest := [.int p1]) ⟨hx, hb, hml, hown, hts⟩ (c_Z_lengthOf l D cI cL cO (vw 300 md k at1.toNatClampNeg)) (cwS 1 hts (gBIG (m3 k_ml_Z_102 k_st_Z_lengthOf k_ini_Z) k_co_Z_lengthOf) rfl rfl rfl (by decide +kernel) ⟨Nat.le_of_ble_eq_true rfl, Nat.le_of_ble_eq_true rfl⟩) ⟨PR.bl, PR.pre P_nil hK⟩ rfl rfl hl.1 rfl (lv_room (Nat.le_of_ble_eq_true rfl)) d_Z_runBytes_84 ⟨Nat.le_of_ble_eq_true rfl, Nat.le_of_ble_eq_true rfl⟩) ?_
                refine lv_iadd hx hb d_Z_runBytes_87 ?_
                refine lv_istore (lv' := [(7, .int (p1 + (zleF (vw 300 md k at1.toNatClampNeg)))), (5, .int 0), (6, .int (vw 300 md k at1.toNatClampNeg)), (0, .ref z0), (1, .int k), (2, .int (300 * k)), (3, .int p1), (4, .int nn)]) hx hb d_Z_runBytes_88 hl (by decide) rfl (fun ls hl => ?_)
                refine lv_iload hx hb d_Z_runBytes_90 (lv_at hl 2 rfl) ?_
                refine lv_iconst (v := 1) hx hb d_Z_runBytes_92 (by decide) ?_
                refine lv_icmp_eq (tgt := 109) hx hb d_Z_runBytes_93 (by decide) (fun c_93 => ?_) (fun c_93 => ?_)
                · refine lv_aload_n hx hb d_Z_runBytes_109 rfl (lv_at hl 3 rfl) ?_
                  refine va_get (ci := 5) (v := .ref y12) (C := R_Z) (T := T_Z) (N := 26) hx hb ht in_Z hown hK.1 hP 0 rfl rfl 18 (by decide) (ht _ k_fl_Z_44) (fun _ h9 => h9) rfl d_Z_runBytes_110 ?_
                  refine lv_iload hx hb d_Z_runBytes_113 (lv_at hl 7 rfl) ?_
                  refine lv_iload hx hb d_Z_runBytes_115 (lv_at hl 2 rfl) ?_
                  refine lv_iconst (v := 1) hx hb d_Z_runBytes_117 (by decide) ?_
                  refine lv_icmp_ne (tgt := 137) hx hb d_Z_runBytes_118 (by decide) (fun c_118 => ?_) (fun c_118 => ?_)
                  · exact absurd c_93 c_118
                  · refine lv_aload_n hx hb d_Z_runBytes_121 rfl (lv_at hl 3 rfl) ?_
                    refine va_get (ci := 5) (v := .ref y11) (C := R_Z) (T := T_Z) (N := 26) hx hb ht in_Z hown hK.1 hP 0 rfl rfl 17 (by decide) (ht _ k_fl_Z_40) (fun _ h9 => h9) rfl d_Z_runBytes_122 ?_
                    refine lv_aload_n hx hb d_Z_runBytes_125 rfl (lv_at hl 3 rfl) ?_
                    refine va_get (ci := 5) (v := .ref y8) (C := R_Z) (T := T_Z) (N := 26) hx hb ht in_Z hown hK.1 hP 0 rfl rfl 14 (by decide) (ht _ k_fl_Z_31) (fun _ h9 => h9) rfl d_Z_runBytes_126 ?_
                    refine lv_iload_n hx hb d_Z_runBytes_129 rfl (lv_at hl 6 rfl) ?_
                    refine lv_iconst (v := 1) hx hb d_Z_runBytes_130 (by decide) ?_
                    refine lv_iadd hx hb d_Z_runBytes_131 ?_
                    refine va_iald hx hb hK.1 hP 8 0 rfl rfl (vwj (f := md) hk hp (j := 1) (m := 1) (by decide) (by decide) ha0 (by have := (op_r hY hR hB (Or.inl c_93)).1; omega)).2 d_Z_runBytes_132 ?_
                    rw [show md (p1 + 1).toNatClampNeg = vw 300 md k (at1 + 1).toNatClampNeg from (vwj (f := md) hk hp (j := 1) (m := 1) (by decide) (by decide) ha0 (by have := (op_r hY hR hB (Or.inl c_93)).1; omega)).1]
                    refine va_lald hx hb hK.1 hP 11 1 rfl rfl (in4 (op_r hY hR hB (Or.inl c_93)).2.2) d_Z_runBytes_133 ?_
                    refine lv_goto (tgt := 143) hx hb d_Z_runBytes_134 (by decide) ?_
                    refine va_last hx hb hK.1 hP hD hS 12 1 rfl rfl (in8 hg0 hg4) d_Z_runBytes_143 (fun H locs hP hD hS => ?_)
                    have hP : va_P D vwCl ((wZ cI cL z0 y1 y2 y3 y4 y5 y6 y7 y8 y9 y10 y11 y12 y13 y14 mn oo oa ob ss gg zz md sd da rg1 (vp_updL pp1 nn.toNatClampNeg (rg1 (vw 300 md k (at1 + 1).toNatClampNeg).toNatClampNeg)) kp ot th li bl nw wr ru al sp1 en1 ke kb at0) ++ fr) H := hP
                    have hD : va_D A ((wZ cI cL z0 y1 y2 y3 y4 y5 y6 y7 y8 y9 y10 y11 y12 y13 y14 mn oo oa ob ss gg zz md sd da rg1 (vp_updL pp1 nn.toNatClampNeg (rg1 (vw 300 md k (at1 + 1).toNatClampNeg).toNatClampNeg)) kp ot th li bl nw wr ru al sp1 en1 ke kb at0) ++ fr) := hD
                    refine lv_iinc (v := nn + 1) (lv' := [(4, .int (nn + 1)), (7, .int (p1 + (zleF (vw 300 md k at1.toNatClampNeg)))), (5, .int 0), (6, .int (vw 300 md k at1.toNatClampNeg)), (0, .ref z0), (1, .int k), (2, .int (300 * k)), (3, .int p1)]) hx hb d_Z_runBytes_144 hl (k := 7) rfl rfl (by decide) rfl (fun ls hl => ?_)
                    refine lv_goto (tgt := 306) hx hb d_Z_runBytes_147 (by decide) ?_
                    refine lv_iload hx hb d_Z_runBytes_306 (lv_at hl 1 rfl) ?_
                    refine lv_istore_n (lv' := [(3, .int (p1 + (zleF (vw 300 md k at1.toNatClampNeg)))), (4, .int (nn + 1)), (7, .int (p1 + (zleF (vw 300 md k at1.toNatClampNeg)))), (5, .int 0), (6, .int (vw 300 md k at1.toNatClampNeg)), (0, .ref z0), (1, .int k), (2, .int (300 * k))]) hx hb d_Z_runBytes_308 rfl hl (by decide) rfl (fun ls hl => ?_)
                    refine lv_goto (tgt := 14) hx hb d_Z_runBytes_309 (by decide) ?_
                    exact ih (p1 + (zleF (vw 300 md k at1.toNatClampNeg))) (nn + 1) 0 rg1 (vp_updL pp1 nn.toNatClampNeg (rg1 (vw 300 md k (at1 + 1).toNatClampNeg).toNatClampNeg)) sp1 en1 (at1 + zleF (vw 300 md k at1.toNatClampNeg)) (kk + 1) _ _ ls (Or.inl ⟨c_18, (by rw [hp, Int32.add_assoc]), (fun _ => (his c_42)), byC_1 hY hR hB (his c_42) c_93⟩) hP hD hS (lv_sub hl [5, 6, 7, 0, 1, 3] rfl)
                · refine lv_iload hx hb d_Z_runBytes_96 (lv_at hl 2 rfl) ?_
                  refine lv_iconst (v := 3) hx hb d_Z_runBytes_98 (by decide) ?_
                  refine lv_icmp_eq (tgt := 109) hx hb d_Z_runBytes_99 (by decide) (fun c_99 => ?_) (fun c_99 => ?_)
                  · refine lv_aload_n hx hb d_Z_runBytes_109 rfl (lv_at hl 3 rfl) ?_
                    refine va_get (ci := 5) (v := .ref y12) (C := R_Z) (T := T_Z) (N := 26) hx hb ht in_Z hown hK.1 hP 0 rfl rfl 18 (by decide) (ht _ k_fl_Z_44) (fun _ h9 => h9) rfl d_Z_runBytes_110 ?_
                    refine lv_iload hx hb d_Z_runBytes_113 (lv_at hl 7 rfl) ?_
                    refine lv_iload hx hb d_Z_runBytes_115 (lv_at hl 2 rfl) ?_
                    refine lv_iconst (v := 1) hx hb d_Z_runBytes_117 (by decide) ?_
                    refine lv_icmp_ne (tgt := 137) hx hb d_Z_runBytes_118 (by decide) (fun c_118 => ?_) (fun c_118 => ?_)
                    · refine lv_aload_n hx hb d_Z_runBytes_137 rfl (lv_at hl 3 rfl) ?_
                      refine lv_iload_n hx hb d_Z_runBytes_138 rfl (lv_at hl 6 rfl) ?_
                      refine goRi (va_runV (As := [.int p1]) (rest := [.int nn, .ref y12]) ⟨hx, hb, hml, hown, hts⟩ (c_Z_pushed l D cI cL cO z0 y1 y2 y3 y4 y5 y6 y7 y8 y9 y10 y11 y12 y13 y14 mn oo oa ob ss gg zz md sd da rg1 pp1 kp ot th li bl nw wr ru al sp1 en1 ke kb at0 p1 (by rw [hp]; exact in300 hk ⟨ha0, by omega⟩) (by have hl := hlen; rw [c_99, show (zleF 3).toInt = 5 by decide] at hl; exact (vwj (f := md) hk hp (j := 1) (m := 1) (by decide) (by decide) ha0 (by omega)).2) (fun _ => by have hl := hlen; rw [c_99, show (zleF 3).toInt = 5 by decide] at hl; exact ⟨(vwj (f := md) hk hp (j := 2) (m := 2) (by decide) (by decide) ha0 (by omega)).2, (vwj (f := md) hk hp (j := 3) (m := 3) (by decide) (by decide) ha0 (by omega)).2, (vwj (f := md) hk hp (j := 4) (m := 4) (by decide) (by decide) ha0 (by omega)).2⟩)) (cwV 1 hts (gBIG (m4 k_ml_Z_134 k_im_Z_pushed k_sel_Z_pushed k_ini_Z) k_co_Z_pushed) rfl rfl rfl (by decide +kernel) ⟨Nat.le_of_ble_eq_true rfl, Nat.le_of_ble_eq_true rfl⟩) ⟨PR.bl, va_recv hK.1 ((P_app.mp hP).1) (ci := 5) (q0 := 0) rfl rfl, PR.pre ((P_app.mp hP).1) hK⟩ rfl rfl hl.1 rfl (lv_room (Nat.le_of_ble_eq_true rfl)) d_Z_runBytes_139 ⟨Nat.le_of_ble_eq_true rfl, Nat.le_of_ble_eq_true rfl⟩) ?_
                      refine lv_i2l (v := (zpsF (md p1.toNatClampNeg) (md (p1 + 1).toNatClampNeg) (md (p1 + 2).toNatClampNeg) (md (p1 + 3).toNatClampNeg) (md (p1 + 4).toNatClampNeg)).toInt64) hx hb d_Z_runBytes_142 rfl ?_
                      refine va_last hx hb hK.1 hP hD hS 12 1 rfl rfl (in8 hg0 hg4) d_Z_runBytes_143 (fun H locs hP hD hS => ?_)
                      have hP : va_P D vwCl ((wZ cI cL z0 y1 y2 y3 y4 y5 y6 y7 y8 y9 y10 y11 y12 y13 y14 mn oo oa ob ss gg zz md sd da rg1 (vp_updL pp1 nn.toNatClampNeg ((zpsF (md p1.toNatClampNeg) (md (p1 + 1).toNatClampNeg) (md (p1 + 2).toNatClampNeg) (md (p1 + 3).toNatClampNeg) (md (p1 + 4).toNatClampNeg)).toInt64)) kp ot th li bl nw wr ru al sp1 en1 ke kb at0) ++ fr) H := hP
                      have hD : va_D A ((wZ cI cL z0 y1 y2 y3 y4 y5 y6 y7 y8 y9 y10 y11 y12 y13 y14 mn oo oa ob ss gg zz md sd da rg1 (vp_updL pp1 nn.toNatClampNeg ((zpsF (md p1.toNatClampNeg) (md (p1 + 1).toNatClampNeg) (md (p1 + 2).toNatClampNeg) (md (p1 + 3).toNatClampNeg) (md (p1 + 4).toNatClampNeg)).toInt64)) kp ot th li bl nw wr ru al sp1 en1 ke kb at0) ++ fr) := hD
                      refine lv_iinc (v := nn + 1) (lv' := [(4, .int (nn + 1)), (7, .int (p1 + (zleF (vw 300 md k at1.toNatClampNeg)))), (5, .int 0), (6, .int (vw 300 md k at1.toNatClampNeg)), (0, .ref z0), (1, .int k), (2, .int (300 * k)), (3, .int p1)]) hx hb d_Z_runBytes_144 hl (k := 7) rfl rfl (by decide) rfl (fun ls hl => ?_)
                      refine lv_goto (tgt := 306) hx hb d_Z_runBytes_147 (by decide) ?_
                      refine lv_iload hx hb d_Z_runBytes_306 (lv_at hl 1 rfl) ?_
                      refine lv_istore_n (lv' := [(3, .int (p1 + (zleF (vw 300 md k at1.toNatClampNeg)))), (4, .int (nn + 1)), (7, .int (p1 + (zleF (vw 300 md k at1.toNatClampNeg)))), (5, .int 0), (6, .int (vw 300 md k at1.toNatClampNeg)), (0, .ref z0), (1, .int k), (2, .int (300 * k))]) hx hb d_Z_runBytes_308 rfl hl (by decide) rfl (fun ls hl => ?_)
                      refine lv_goto (tgt := 14) hx hb d_Z_runBytes_309 (by decide) ?_
                      exact ih (p1 + (zleF (vw 300 md k at1.toNatClampNeg))) (nn + 1) 0 rg1 (vp_updL pp1 nn.toNatClampNeg ((zpsF (md p1.toNatClampNeg) (md (p1 + 1).toNatClampNeg) (md (p1 + 2).toNatClampNeg) (md (p1 + 3).toNatClampNeg) (md (p1 + 4).toNatClampNeg)).toInt64)) sp1 en1 (at1 + zleF (vw 300 md k at1.toNatClampNeg)) (kk + 1) _ _ ls (Or.inl ⟨c_18, (by rw [hp, Int32.add_assoc]), (fun _ => (his c_42)), (by rw [hcv3 md hp c_99]; exact byC_3 hY hR hB (his c_42) c_99)⟩) hP hD hS (lv_sub hl [5, 6, 7, 0, 1, 3] rfl)
                    · exact absurd c_118 c_93
                  · refine lv_iload hx hb d_Z_runBytes_102 (lv_at hl 2 rfl) ?_
                    refine lv_bipush (v := 16) hx hb d_Z_runBytes_104 (by decide) ?_
                    refine lv_icmp_ne (tgt := 150) hx hb d_Z_runBytes_106 (by decide) (fun c_106 => ?_) (fun c_106 => ?_)
                    · refine lv_iload hx hb d_Z_runBytes_150 (lv_at hl 1 rfl) ?_
                      refine lv_if_eq (tgt := 242) hx hb d_Z_runBytes_152 (by decide) (fun c_152 => ?_) (fun c_152 => ?_)
                      · refine lv_iload hx hb d_Z_runBytes_242 (lv_at hl 2 rfl) ?_
                        refine lv_bipush (v := 7) hx hb d_Z_runBytes_244 (by decide) ?_
                        refine lv_icmp_ne (tgt := 271) hx hb d_Z_runBytes_246 (by decide) (fun c_246 => ?_) (fun c_246 => ?_)
                        · refine lv_iinc (v := nn + (-1)) (lv' := [(4, .int (nn + (-1))), (7, .int (p1 + (zleF (vw 300 md k at1.toNatClampNeg)))), (5, .int 0), (6, .int (vw 300 md k at1.toNatClampNeg)), (0, .ref z0), (1, .int k), (2, .int (300 * k)), (3, .int p1)]) hx hb d_Z_runBytes_271 hl (k := 7) rfl rfl (by decide) rfl (fun ls hl => ?_)
                          refine lv_aload_n hx hb d_Z_runBytes_274 rfl (lv_at hl 4 rfl) ?_
                          refine va_get (ci := 5) (v := .ref y12) (C := R_Z) (T := T_Z) (N := 26) hx hb ht in_Z hown hK.1 hP 0 rfl rfl 18 (by decide) (ht _ k_fl_Z_44) (fun _ h9 => h9) rfl d_Z_runBytes_275 ?_
                          refine lv_iload hx hb d_Z_runBytes_278 (lv_at hl 0 rfl) ?_
                          refine lv_iconst (v := 1) hx hb d_Z_runBytes_280 (by decide) ?_
                          refine lv_isub hx hb d_Z_runBytes_281 ?_
                          refine lv_iload hx hb d_Z_runBytes_282 (lv_at hl 3 rfl) ?_
                          refine lv_iconst (v := 3) hx hb d_Z_runBytes_284 (by decide) ?_
                          refine lv_isub hx hb d_Z_runBytes_285 ?_
                          refine lv_aload_n hx hb d_Z_runBytes_286 rfl (lv_at hl 4 rfl) ?_
                          refine va_get (ci := 5) (v := .ref y12) (C := R_Z) (T := T_Z) (N := 26) hx hb ht in_Z hown hK.1 hP 0 rfl rfl 18 (by decide) (ht _ k_fl_Z_44) (fun _ h9 => h9) rfl d_Z_runBytes_287 ?_
                          refine lv_iload hx hb d_Z_runBytes_290 (lv_at hl 0 rfl) ?_
                          refine lv_iconst (v := 1) hx hb d_Z_runBytes_292 (by decide) ?_
                          refine lv_isub hx hb d_Z_runBytes_293 ?_
                          refine va_lald hx hb hK.1 hP 12 1 rfl rfl (in8mm (by have := ta_ge hRa hge; have h2 : (ztaF (vw 300 md k at1.toNatClampNeg)).toInt = 2 := (by rcases (ar_c hRa.1 c_29 c_64 c_71 c_93 c_99 c_106) with c | c | c | c | c <;> rw [c] <;> decide); omega) hg4) d_Z_runBytes_294 ?_
                          refine lv_aload_n hx hb d_Z_runBytes_295 rfl (lv_at hl 4 rfl) ?_
                          refine va_get (ci := 5) (v := .ref y12) (C := R_Z) (T := T_Z) (N := 26) hx hb ht in_Z hown hK.1 hP 0 rfl rfl 18 (by decide) (ht _ k_fl_Z_44) (fun _ h9 => h9) rfl d_Z_runBytes_296 ?_
                          refine lv_iload hx hb d_Z_runBytes_299 (lv_at hl 0 rfl) ?_
                          refine va_lald hx hb hK.1 hP 12 1 rfl rfl (in8m (Int.le_trans (by decide) (show (2 : Int) ≤ nn.toInt from (by have := ta_ge hRa hge; have h2 : (ztaF (vw 300 md k at1.toNatClampNeg)).toInt = 2 := (by rcases (ar_c hRa.1 c_29 c_64 c_71 c_93 c_99 c_106) with c | c | c | c | c <;> rw [c] <;> decide); omega))) hg4).1 d_Z_runBytes_301 ?_
                          refine goRl (va_runS (As := [.int ((vw 300 md k at1.toNatClampNeg) - 3), .long (pp1 ((nn + (-1)) - 1).toNatClampNeg), .long (pp1 (nn + (-1)).toNatClampNeg)]) (rest := [.int ((nn + (-1)) - 1), .ref y12]) ⟨hx, hb, hml, hown, hts⟩ (c_Z_result l D cI cL cO ((vw 300 md k at1.toNatClampNeg) - 3) (pp1 ((nn + (-1)) - 1).toNatClampNeg) (pp1 (nn + (-1)).toNatClampNeg) (fun h => absurd (c37 h) c_246)) (cwS 3 hts (gBIG (m3 k_ml_Z_130 k_st_Z_result k_ini_Z) k_co_Z_result) rfl rfl rfl (by decide +kernel) ⟨Nat.le_of_ble_eq_true rfl, Nat.le_of_ble_eq_true rfl⟩) ⟨PR.bl, PR.pre P_nil hK⟩ rfl rfl hl.1 rfl (lv_room (Nat.le_of_ble_eq_true rfl)) d_Z_runBytes_302 ⟨Nat.le_of_ble_eq_true rfl, Nat.le_of_ble_eq_true rfl⟩) ?_
                          refine va_last hx hb hK.1 hP hD hS 12 1 rfl rfl (in8mm (by have := ta_ge hRa hge; have h2 : (ztaF (vw 300 md k at1.toNatClampNeg)).toInt = 2 := (by rcases (ar_c hRa.1 c_29 c_64 c_71 c_93 c_99 c_106) with c | c | c | c | c <;> rw [c] <;> decide); omega) hg4) d_Z_runBytes_305 (fun H locs hP hD hS => ?_)
                          have hP : va_P D vwCl ((wZ cI cL z0 y1 y2 y3 y4 y5 y6 y7 y8 y9 y10 y11 y12 y13 y14 mn oo oa ob ss gg zz md sd da rg1 (vp_updL pp1 ((nn + (-1)) - 1).toNatClampNeg (zreF ((vw 300 md k at1.toNatClampNeg) - 3) (pp1 ((nn + (-1)) - 1).toNatClampNeg) (pp1 (nn + (-1)).toNatClampNeg))) kp ot th li bl nw wr ru al sp1 en1 ke kb at0) ++ fr) H := hP
                          have hD : va_D A ((wZ cI cL z0 y1 y2 y3 y4 y5 y6 y7 y8 y9 y10 y11 y12 y13 y14 mn oo oa ob ss gg zz md sd da rg1 (vp_updL pp1 ((nn + (-1)) - 1).toNatClampNeg (zreF ((vw 300 md k at1.toNatClampNeg) - 3) (pp1 ((nn + (-1)) - 1).toNatClampNeg) (pp1 (nn + (-1)).toNatClampNeg))) kp ot th li bl nw wr ru al sp1 en1 ke kb at0) ++ fr) := hD
                          refine lv_iload hx hb d_Z_runBytes_306 (lv_at hl 1 rfl) ?_
                          refine lv_istore_n (lv' := [(3, .int (p1 + (zleF (vw 300 md k at1.toNatClampNeg)))), (4, .int (nn + (-1))), (7, .int (p1 + (zleF (vw 300 md k at1.toNatClampNeg)))), (5, .int 0), (6, .int (vw 300 md k at1.toNatClampNeg)), (0, .ref z0), (1, .int k), (2, .int (300 * k))]) hx hb d_Z_runBytes_308 rfl hl (by decide) rfl (fun ls hl => ?_)
                          refine lv_goto (tgt := 14) hx hb d_Z_runBytes_309 (by decide) ?_
                          exact ih (p1 + (zleF (vw 300 md k at1.toNatClampNeg))) (nn + (-1)) 0 rg1 (vp_updL pp1 ((nn + (-1)) - 1).toNatClampNeg (zreF ((vw 300 md k at1.toNatClampNeg) - 3) (pp1 ((nn + (-1)) - 1).toNatClampNeg) (pp1 (nn + (-1)).toNatClampNeg))) sp1 en1 (at1 + zleF (vw 300 md k at1.toNatClampNeg)) (kk + 1) _ _ ls (Or.inl ⟨c_18, (by rw [hp, Int32.add_assoc]), (fun _ => (his c_42)), (byC_a hR hB (his c_42) (ar_c hRa.1 c_29 c_64 c_71 c_93 c_99 c_106) (fun z => absurd z c_246)).1⟩) hP hD hS (lv_sub hl [5, 6, 7, 0, 1, 3] rfl)
                        · refine lv_aload_n hx hb d_Z_runBytes_249 rfl (lv_at hl 3 rfl) ?_
                          refine va_get (ci := 5) (v := .ref y12) (C := R_Z) (T := T_Z) (N := 26) hx hb ht in_Z hown hK.1 hP 0 rfl rfl 18 (by decide) (ht _ k_fl_Z_44) (fun _ h9 => h9) rfl d_Z_runBytes_250 ?_
                          refine lv_iload hx hb d_Z_runBytes_253 (lv_at hl 7 rfl) ?_
                          refine lv_iconst (v := 1) hx hb d_Z_runBytes_255 (by decide) ?_
                          refine lv_isub hx hb d_Z_runBytes_256 ?_
                          refine va_lald hx hb hK.1 hP 12 1 rfl rfl (in8m (by have := ta_ge hRa hge; rw [c_246, show (ztaF 7).toInt = 2 by decide] at this; omega) hg4).2 d_Z_runBytes_257 ?_
                          refine lv_lconst (v := 0) hx hb d_Z_runBytes_258 (by decide) ?_
                          refine W.lcmp hx hb d_Z_runBytes_259 ?_
                          refine lv_if_ne (tgt := 271) hx hb d_Z_runBytes_260 (by decide) (fun c_260 => ?_) (fun c_260 => ?_)
                          · refine lv_iinc (v := nn + (-1)) (lv' := [(4, .int (nn + (-1))), (7, .int (p1 + (zleF (vw 300 md k at1.toNatClampNeg)))), (5, .int 0), (6, .int (vw 300 md k at1.toNatClampNeg)), (0, .ref z0), (1, .int k), (2, .int (300 * k)), (3, .int p1)]) hx hb d_Z_runBytes_271 hl (k := 7) rfl rfl (by decide) rfl (fun ls hl => ?_)
                            refine lv_aload_n hx hb d_Z_runBytes_274 rfl (lv_at hl 4 rfl) ?_
                            refine va_get (ci := 5) (v := .ref y12) (C := R_Z) (T := T_Z) (N := 26) hx hb ht in_Z hown hK.1 hP 0 rfl rfl 18 (by decide) (ht _ k_fl_Z_44) (fun _ h9 => h9) rfl d_Z_runBytes_275 ?_
                            refine lv_iload hx hb d_Z_runBytes_278 (lv_at hl 0 rfl) ?_
                            refine lv_iconst (v := 1) hx hb d_Z_runBytes_280 (by decide) ?_
                            refine lv_isub hx hb d_Z_runBytes_281 ?_
                            refine lv_iload hx hb d_Z_runBytes_282 (lv_at hl 3 rfl) ?_
                            refine lv_iconst (v := 3) hx hb d_Z_runBytes_284 (by decide) ?_
                            refine lv_isub hx hb d_Z_runBytes_285 ?_
                            refine lv_aload_n hx hb d_Z_runBytes_286 rfl (lv_at hl 4 rfl) ?_
                            refine va_get (ci := 5) (v := .ref y12) (C := R_Z) (T := T_Z) (N := 26) hx hb ht in_Z hown hK.1 hP 0 rfl rfl 18 (by decide) (ht _ k_fl_Z_44) (fun _ h9 => h9) rfl d_Z_runBytes_287 ?_
                            refine lv_iload hx hb d_Z_runBytes_290 (lv_at hl 0 rfl) ?_
                            refine lv_iconst (v := 1) hx hb d_Z_runBytes_292 (by decide) ?_
                            refine lv_isub hx hb d_Z_runBytes_293 ?_
                            refine va_lald hx hb hK.1 hP 12 1 rfl rfl (in8mm (by have := ta_ge hRa hge; have h2 : (ztaF (vw 300 md k at1.toNatClampNeg)).toInt = 2 := (by rcases (ar_c hRa.1 c_29 c_64 c_71 c_93 c_99 c_106) with c | c | c | c | c <;> rw [c] <;> decide); omega) hg4) d_Z_runBytes_294 ?_
                            refine lv_aload_n hx hb d_Z_runBytes_295 rfl (lv_at hl 4 rfl) ?_
                            refine va_get (ci := 5) (v := .ref y12) (C := R_Z) (T := T_Z) (N := 26) hx hb ht in_Z hown hK.1 hP 0 rfl rfl 18 (by decide) (ht _ k_fl_Z_44) (fun _ h9 => h9) rfl d_Z_runBytes_296 ?_
                            refine lv_iload hx hb d_Z_runBytes_299 (lv_at hl 0 rfl) ?_
                            refine va_lald hx hb hK.1 hP 12 1 rfl rfl (in8m (Int.le_trans (by decide) (show (2 : Int) ≤ nn.toInt from (by have := ta_ge hRa hge; have h2 : (ztaF (vw 300 md k at1.toNatClampNeg)).toInt = 2 := (by rcases (ar_c hRa.1 c_29 c_64 c_71 c_93 c_99 c_106) with c | c | c | c | c <;> rw [c] <;> decide); omega))) hg4).1 d_Z_runBytes_301 ?_
                            refine goRl (va_runS (As := [.int ((vw 300 md k at1.toNatClampNeg) - 3), .long (pp1 ((nn + (-1)) - 1).toNatClampNeg), .long (pp1 (nn + (-1)).toNatClampNeg)]) (rest := [.int ((nn + (-1)) - 1), .ref y12]) ⟨hx, hb, hml, hown, hts⟩ (c_Z_result l D cI cL cO ((vw 300 md k at1.toNatClampNeg) - 3) (pp1 ((nn + (-1)) - 1).toNatClampNeg) (pp1 (nn + (-1)).toNatClampNeg) (fun _ y => c_260 (by rw [← m1e]; exact (lg_cmp_eq _ _).mpr y))) (cwS 3 hts (gBIG (m3 k_ml_Z_130 k_st_Z_result k_ini_Z) k_co_Z_result) rfl rfl rfl (by decide +kernel) ⟨Nat.le_of_ble_eq_true rfl, Nat.le_of_ble_eq_true rfl⟩) ⟨PR.bl, PR.pre P_nil hK⟩ rfl rfl hl.1 rfl (lv_room (Nat.le_of_ble_eq_true rfl)) d_Z_runBytes_302 ⟨Nat.le_of_ble_eq_true rfl, Nat.le_of_ble_eq_true rfl⟩) ?_
                            refine va_last hx hb hK.1 hP hD hS 12 1 rfl rfl (in8mm (by have := ta_ge hRa hge; have h2 : (ztaF (vw 300 md k at1.toNatClampNeg)).toInt = 2 := (by rcases (ar_c hRa.1 c_29 c_64 c_71 c_93 c_99 c_106) with c | c | c | c | c <;> rw [c] <;> decide); omega) hg4) d_Z_runBytes_305 (fun H locs hP hD hS => ?_)
                            have hP : va_P D vwCl ((wZ cI cL z0 y1 y2 y3 y4 y5 y6 y7 y8 y9 y10 y11 y12 y13 y14 mn oo oa ob ss gg zz md sd da rg1 (vp_updL pp1 ((nn + (-1)) - 1).toNatClampNeg (zreF ((vw 300 md k at1.toNatClampNeg) - 3) (pp1 ((nn + (-1)) - 1).toNatClampNeg) (pp1 (nn + (-1)).toNatClampNeg))) kp ot th li bl nw wr ru al sp1 en1 ke kb at0) ++ fr) H := hP
                            have hD : va_D A ((wZ cI cL z0 y1 y2 y3 y4 y5 y6 y7 y8 y9 y10 y11 y12 y13 y14 mn oo oa ob ss gg zz md sd da rg1 (vp_updL pp1 ((nn + (-1)) - 1).toNatClampNeg (zreF ((vw 300 md k at1.toNatClampNeg) - 3) (pp1 ((nn + (-1)) - 1).toNatClampNeg) (pp1 (nn + (-1)).toNatClampNeg))) kp ot th li bl nw wr ru al sp1 en1 ke kb at0) ++ fr) := hD
                            refine lv_iload hx hb d_Z_runBytes_306 (lv_at hl 1 rfl) ?_
                            refine lv_istore_n (lv' := [(3, .int (p1 + (zleF (vw 300 md k at1.toNatClampNeg)))), (4, .int (nn + (-1))), (7, .int (p1 + (zleF (vw 300 md k at1.toNatClampNeg)))), (5, .int 0), (6, .int (vw 300 md k at1.toNatClampNeg)), (0, .ref z0), (1, .int k), (2, .int (300 * k))]) hx hb d_Z_runBytes_308 rfl hl (by decide) rfl (fun ls hl => ?_)
                            refine lv_goto (tgt := 14) hx hb d_Z_runBytes_309 (by decide) ?_
                            exact ih (p1 + (zleF (vw 300 md k at1.toNatClampNeg))) (nn + (-1)) 0 rg1 (vp_updL pp1 ((nn + (-1)) - 1).toNatClampNeg (zreF ((vw 300 md k at1.toNatClampNeg) - 3) (pp1 ((nn + (-1)) - 1).toNatClampNeg) (pp1 (nn + (-1)).toNatClampNeg))) sp1 en1 (at1 + zleF (vw 300 md k at1.toNatClampNeg)) (kk + 1) _ _ ls (Or.inl ⟨c_18, (by rw [hp, Int32.add_assoc]), (fun _ => (his c_42)), (byC_a hR hB (his c_42) (ar_c hRa.1 c_29 c_64 c_71 c_93 c_99 c_106) (fun _ => c_260)).1⟩) hP hD hS (lv_sub hl [5, 6, 7, 0, 1, 3] rfl)
                          · refine lv_aload_n hx hb d_Z_runBytes_263 rfl (lv_at hl 3 rfl) ?_
                            refine lv_iconst (v := 1) hx hb d_Z_runBytes_264 (by decide) ?_
                            refine va_put (ci := 5) (v := .int 1) (ty := .int) (C := R_Z) (T := T_Z) (N := 26) hx hb ht in_Z t_Z t_Z_ok n_Z hown hK.1 hP hD hS 0 rfl rfl 20 (by decide) (ht _ k_fl_Z_127) (fun _ h9 => h9) rfl (by decide +kernel) rfl rfl (Nat.le_of_ble_eq_true rfl) d_Z_runBytes_265 (fun H locs hP hD hS => ?_)
                            have hP : va_P D vwCl ((wZ cI cL z0 y1 y2 y3 y4 y5 y6 y7 y8 y9 y10 y11 y12 y13 y14 mn oo oa ob ss gg zz md sd da rg1 pp1 kp ot th li bl nw wr ru al sp1 1 ke kb at0) ++ fr) H := hP
                            have hD : va_D A ((wZ cI cL z0 y1 y2 y3 y4 y5 y6 y7 y8 y9 y10 y11 y12 y13 y14 mn oo oa ob ss gg zz md sd da rg1 pp1 kp ot th li bl nw wr ru al sp1 1 ke kb at0) ++ fr) := hD
                            refine lv_goto (tgt := 306) hx hb d_Z_runBytes_268 (by decide) ?_
                            refine lv_iload hx hb d_Z_runBytes_306 (lv_at hl 0 rfl) ?_
                            refine lv_istore_n (lv' := [(3, .int (p1 + (zleF (vw 300 md k at1.toNatClampNeg)))), (7, .int (p1 + (zleF (vw 300 md k at1.toNatClampNeg)))), (5, .int 0), (6, .int (vw 300 md k at1.toNatClampNeg)), (0, .ref z0), (1, .int k), (2, .int (300 * k)), (4, .int nn)]) hx hb d_Z_runBytes_308 rfl hl (by decide) rfl (fun ls hl => ?_)
                            refine lv_goto (tgt := 14) hx hb d_Z_runBytes_309 (by decide) ?_
                            exact ih (p1 + (zleF (vw 300 md k at1.toNatClampNeg))) nn 0 rg1 pp1 sp1 1 at1 (kk + 1) _ _ ls (Or.inr ⟨by decide, by have := byI_f hR hB c_246 (his c_42) (tz1 (by have := ta_ge hRa hge; rw [c_246, show (ztaF 7).toInt = 2 by decide] at this; omega) c_260); exact ⟨congrArg (·.1) this, congrArg (·.2.2.1) this, congrArg (·.2.2.2) this, byI_1 hR hB⟩⟩) hP hD hS (lv_sub hl [4, 5, 6, 0, 7, 2] rfl)
                      · exact absurd c_152 (by decide)
                    · refine lv_aload_n hx hb d_Z_runBytes_109 rfl (lv_at hl 3 rfl) ?_
                      refine va_get (ci := 5) (v := .ref y12) (C := R_Z) (T := T_Z) (N := 26) hx hb ht in_Z hown hK.1 hP 0 rfl rfl 18 (by decide) (ht _ k_fl_Z_44) (fun _ h9 => h9) rfl d_Z_runBytes_110 ?_
                      refine lv_iload hx hb d_Z_runBytes_113 (lv_at hl 7 rfl) ?_
                      refine lv_iload hx hb d_Z_runBytes_115 (lv_at hl 2 rfl) ?_
                      refine lv_iconst (v := 1) hx hb d_Z_runBytes_117 (by decide) ?_
                      refine lv_icmp_ne (tgt := 137) hx hb d_Z_runBytes_118 (by decide) (fun c_118 => ?_) (fun c_118 => ?_)
                      · refine lv_aload_n hx hb d_Z_runBytes_137 rfl (lv_at hl 3 rfl) ?_
                        refine lv_iload_n hx hb d_Z_runBytes_138 rfl (lv_at hl 6 rfl) ?_
                        refine goRi (va_runV (As := [.int p1]) (rest := [.int nn, .ref y12]) ⟨hx, hb, hml, hown, hts⟩ (c_Z_pushed l D cI cL cO z0 y1 y2 y3 y4 y5 y6 y7 y8 y9 y10 y11 y12 y13 y14 mn oo oa ob ss gg zz md sd da rg1 pp1 kp ot th li bl nw wr ru al sp1 en1 ke kb at0 p1 (by rw [hp]; exact in300 hk ⟨ha0, by omega⟩) (by have hl := hlen; rw [c_106, show (zleF 16).toInt = 2 by decide] at hl; exact (vwj (f := md) hk hp (j := 1) (m := 1) (by decide) (by decide) ha0 (by omega)).2) (fun z => absurd (show md p1.toNatClampNeg = 16 by rw [show md p1.toNatClampNeg = vw 300 md k at1.toNatClampNeg from (by rw [hp]; exact vw300 hk ⟨ha0, by omega⟩)]; exact c_106) z)) (cwV 1 hts (gBIG (m4 k_ml_Z_134 k_im_Z_pushed k_sel_Z_pushed k_ini_Z) k_co_Z_pushed) rfl rfl rfl (by decide +kernel) ⟨Nat.le_of_ble_eq_true rfl, Nat.le_of_ble_eq_true rfl⟩) ⟨PR.bl, va_recv hK.1 ((P_app.mp hP).1) (ci := 5) (q0 := 0) rfl rfl, PR.pre ((P_app.mp hP).1) hK⟩ rfl rfl hl.1 rfl (lv_room (Nat.le_of_ble_eq_true rfl)) d_Z_runBytes_139 ⟨Nat.le_of_ble_eq_true rfl, Nat.le_of_ble_eq_true rfl⟩) ?_
                        refine lv_i2l (v := (zpsF (md p1.toNatClampNeg) (md (p1 + 1).toNatClampNeg) (md (p1 + 2).toNatClampNeg) (md (p1 + 3).toNatClampNeg) (md (p1 + 4).toNatClampNeg)).toInt64) hx hb d_Z_runBytes_142 rfl ?_
                        refine va_last hx hb hK.1 hP hD hS 12 1 rfl rfl (in8 hg0 hg4) d_Z_runBytes_143 (fun H locs hP hD hS => ?_)
                        have hP : va_P D vwCl ((wZ cI cL z0 y1 y2 y3 y4 y5 y6 y7 y8 y9 y10 y11 y12 y13 y14 mn oo oa ob ss gg zz md sd da rg1 (vp_updL pp1 nn.toNatClampNeg ((zpsF (md p1.toNatClampNeg) (md (p1 + 1).toNatClampNeg) (md (p1 + 2).toNatClampNeg) (md (p1 + 3).toNatClampNeg) (md (p1 + 4).toNatClampNeg)).toInt64)) kp ot th li bl nw wr ru al sp1 en1 ke kb at0) ++ fr) H := hP
                        have hD : va_D A ((wZ cI cL z0 y1 y2 y3 y4 y5 y6 y7 y8 y9 y10 y11 y12 y13 y14 mn oo oa ob ss gg zz md sd da rg1 (vp_updL pp1 nn.toNatClampNeg ((zpsF (md p1.toNatClampNeg) (md (p1 + 1).toNatClampNeg) (md (p1 + 2).toNatClampNeg) (md (p1 + 3).toNatClampNeg) (md (p1 + 4).toNatClampNeg)).toInt64)) kp ot th li bl nw wr ru al sp1 en1 ke kb at0) ++ fr) := hD
                        refine lv_iinc (v := nn + 1) (lv' := [(4, .int (nn + 1)), (7, .int (p1 + (zleF (vw 300 md k at1.toNatClampNeg)))), (5, .int 0), (6, .int (vw 300 md k at1.toNatClampNeg)), (0, .ref z0), (1, .int k), (2, .int (300 * k)), (3, .int p1)]) hx hb d_Z_runBytes_144 hl (k := 7) rfl rfl (by decide) rfl (fun ls hl => ?_)
                        refine lv_goto (tgt := 306) hx hb d_Z_runBytes_147 (by decide) ?_
                        refine lv_iload hx hb d_Z_runBytes_306 (lv_at hl 1 rfl) ?_
                        refine lv_istore_n (lv' := [(3, .int (p1 + (zleF (vw 300 md k at1.toNatClampNeg)))), (4, .int (nn + 1)), (7, .int (p1 + (zleF (vw 300 md k at1.toNatClampNeg)))), (5, .int 0), (6, .int (vw 300 md k at1.toNatClampNeg)), (0, .ref z0), (1, .int k), (2, .int (300 * k))]) hx hb d_Z_runBytes_308 rfl hl (by decide) rfl (fun ls hl => ?_)
                        refine lv_goto (tgt := 14) hx hb d_Z_runBytes_309 (by decide) ?_
                        exact ih (p1 + (zleF (vw 300 md k at1.toNatClampNeg))) (nn + 1) 0 rg1 (vp_updL pp1 nn.toNatClampNeg ((zpsF (md p1.toNatClampNeg) (md (p1 + 1).toNatClampNeg) (md (p1 + 2).toNatClampNeg) (md (p1 + 3).toNatClampNeg) (md (p1 + 4).toNatClampNeg)).toInt64)) sp1 en1 (at1 + zleF (vw 300 md k at1.toNatClampNeg)) (kk + 1) _ _ ls (Or.inl ⟨c_18, (by rw [hp, Int32.add_assoc]), (fun _ => (his c_42)), (by rw [hcv16 md hp c_106]; exact byC_16 hY hR hB (his c_42) c_106)⟩) hP hD hS (lv_sub hl [5, 6, 7, 0, 1, 3] rfl)
                      · exact absurd c_118 c_93
              · refine lv_iconst (v := 1) hx hb d_Z_runBytes_74 (by decide) ?_
                refine lv_goto (tgt := 79) hx hb d_Z_runBytes_75 (by decide) ?_
                refine lv_istore (lv' := [(5, .int 1), (6, .int (vw 300 md k at1.toNatClampNeg)), (0, .ref z0), (1, .int k), (2, .int (300 * k)), (3, .int p1), (4, .int nn)]) hx hb d_Z_runBytes_79 hl (by decide) rfl (fun ls hl => ?_)
                refine lv_iload_n hx hb d_Z_runBytes_81 rfl (lv_at hl 5 rfl) ?_
                refine lv_iload hx hb d_Z_runBytes_82 (lv_at hl 1 rfl) ?_
                refine goRi (va_runS (As := [.int (vw 300 md k at1.toNatClampNeg)]) (rest := [.int p1]) ⟨hx, hb, hml, hown, hts⟩ (c_Z_lengthOf l D cI cL cO (vw 300 md k at1.toNatClampNeg)) (cwS 1 hts (gBIG (m3 k_ml_Z_102 k_st_Z_lengthOf k_ini_Z) k_co_Z_lengthOf) rfl rfl rfl (by decide +kernel) ⟨Nat.le_of_ble_eq_true rfl, Nat.le_of_ble_eq_true rfl⟩) ⟨PR.bl, PR.pre P_nil hK⟩ rfl rfl hl.1 rfl (lv_room (Nat.le_of_ble_eq_true rfl)) d_Z_runBytes_84 ⟨Nat.le_of_ble_eq_true rfl, Nat.le_of_ble_eq_true rfl⟩) ?_
                refine lv_iadd hx hb d_Z_runBytes_87 ?_
                refine lv_istore (lv' := [(7, .int (p1 + (zleF (vw 300 md k at1.toNatClampNeg)))), (5, .int 1), (6, .int (vw 300 md k at1.toNatClampNeg)), (0, .ref z0), (1, .int k), (2, .int (300 * k)), (3, .int p1), (4, .int nn)]) hx hb d_Z_runBytes_88 hl (by decide) rfl (fun ls hl => ?_)
                refine lv_iload hx hb d_Z_runBytes_90 (lv_at hl 2 rfl) ?_
                refine lv_iconst (v := 1) hx hb d_Z_runBytes_92 (by decide) ?_
                refine lv_icmp_eq (tgt := 109) hx hb d_Z_runBytes_93 (by decide) (fun c_93 => ?_) (fun c_93 => ?_)
                · refine lv_aload_n hx hb d_Z_runBytes_109 rfl (lv_at hl 3 rfl) ?_
                  refine va_get (ci := 5) (v := .ref y12) (C := R_Z) (T := T_Z) (N := 26) hx hb ht in_Z hown hK.1 hP 0 rfl rfl 18 (by decide) (ht _ k_fl_Z_44) (fun _ h9 => h9) rfl d_Z_runBytes_110 ?_
                  refine lv_iload hx hb d_Z_runBytes_113 (lv_at hl 7 rfl) ?_
                  refine lv_iload hx hb d_Z_runBytes_115 (lv_at hl 2 rfl) ?_
                  refine lv_iconst (v := 1) hx hb d_Z_runBytes_117 (by decide) ?_
                  refine lv_icmp_ne (tgt := 137) hx hb d_Z_runBytes_118 (by decide) (fun c_118 => ?_) (fun c_118 => ?_)
                  · exact absurd c_93 c_118
                  · refine lv_aload_n hx hb d_Z_runBytes_121 rfl (lv_at hl 3 rfl) ?_
                    refine va_get (ci := 5) (v := .ref y11) (C := R_Z) (T := T_Z) (N := 26) hx hb ht in_Z hown hK.1 hP 0 rfl rfl 17 (by decide) (ht _ k_fl_Z_40) (fun _ h9 => h9) rfl d_Z_runBytes_122 ?_
                    refine lv_aload_n hx hb d_Z_runBytes_125 rfl (lv_at hl 3 rfl) ?_
                    refine va_get (ci := 5) (v := .ref y8) (C := R_Z) (T := T_Z) (N := 26) hx hb ht in_Z hown hK.1 hP 0 rfl rfl 14 (by decide) (ht _ k_fl_Z_31) (fun _ h9 => h9) rfl d_Z_runBytes_126 ?_
                    refine lv_iload_n hx hb d_Z_runBytes_129 rfl (lv_at hl 6 rfl) ?_
                    refine lv_iconst (v := 1) hx hb d_Z_runBytes_130 (by decide) ?_
                    refine lv_iadd hx hb d_Z_runBytes_131 ?_
                    refine va_iald hx hb hK.1 hP 8 0 rfl rfl (vwj (f := md) hk hp (j := 1) (m := 1) (by decide) (by decide) ha0 (by have := (op_r hY hR hB (Or.inl c_93)).1; omega)).2 d_Z_runBytes_132 ?_
                    rw [show md (p1 + 1).toNatClampNeg = vw 300 md k (at1 + 1).toNatClampNeg from (vwj (f := md) hk hp (j := 1) (m := 1) (by decide) (by decide) ha0 (by have := (op_r hY hR hB (Or.inl c_93)).1; omega)).1]
                    refine va_lald hx hb hK.1 hP 11 1 rfl rfl (in4 (op_r hY hR hB (Or.inl c_93)).2.2) d_Z_runBytes_133 ?_
                    refine lv_goto (tgt := 143) hx hb d_Z_runBytes_134 (by decide) ?_
                    refine va_last hx hb hK.1 hP hD hS 12 1 rfl rfl (in8 hg0 hg4) d_Z_runBytes_143 (fun H locs hP hD hS => ?_)
                    have hP : va_P D vwCl ((wZ cI cL z0 y1 y2 y3 y4 y5 y6 y7 y8 y9 y10 y11 y12 y13 y14 mn oo oa ob ss gg zz md sd da rg1 (vp_updL pp1 nn.toNatClampNeg (rg1 (vw 300 md k (at1 + 1).toNatClampNeg).toNatClampNeg)) kp ot th li bl nw wr ru al sp1 en1 ke kb at0) ++ fr) H := hP
                    have hD : va_D A ((wZ cI cL z0 y1 y2 y3 y4 y5 y6 y7 y8 y9 y10 y11 y12 y13 y14 mn oo oa ob ss gg zz md sd da rg1 (vp_updL pp1 nn.toNatClampNeg (rg1 (vw 300 md k (at1 + 1).toNatClampNeg).toNatClampNeg)) kp ot th li bl nw wr ru al sp1 en1 ke kb at0) ++ fr) := hD
                    refine lv_iinc (v := nn + 1) (lv' := [(4, .int (nn + 1)), (7, .int (p1 + (zleF (vw 300 md k at1.toNatClampNeg)))), (5, .int 1), (6, .int (vw 300 md k at1.toNatClampNeg)), (0, .ref z0), (1, .int k), (2, .int (300 * k)), (3, .int p1)]) hx hb d_Z_runBytes_144 hl (k := 7) rfl rfl (by decide) rfl (fun ls hl => ?_)
                    refine lv_goto (tgt := 306) hx hb d_Z_runBytes_147 (by decide) ?_
                    refine lv_iload hx hb d_Z_runBytes_306 (lv_at hl 1 rfl) ?_
                    refine lv_istore_n (lv' := [(3, .int (p1 + (zleF (vw 300 md k at1.toNatClampNeg)))), (4, .int (nn + 1)), (7, .int (p1 + (zleF (vw 300 md k at1.toNatClampNeg)))), (5, .int 1), (6, .int (vw 300 md k at1.toNatClampNeg)), (0, .ref z0), (1, .int k), (2, .int (300 * k))]) hx hb d_Z_runBytes_308 rfl hl (by decide) rfl (fun ls hl => ?_)
                    refine lv_goto (tgt := 14) hx hb d_Z_runBytes_309 (by decide) ?_
                    exact ih (p1 + (zleF (vw 300 md k at1.toNatClampNeg))) (nn + 1) 1 rg1 (vp_updL pp1 nn.toNatClampNeg (rg1 (vw 300 md k (at1 + 1).toNatClampNeg).toNatClampNeg)) sp1 en1 (at1 + zleF (vw 300 md k at1.toNatClampNeg)) (kk + 1) _ _ ls (Or.inl ⟨c_18, (by rw [hp, Int32.add_assoc]), (fun z => absurd z (by decide)), byC_1 hY hR hB (his c_42) c_93⟩) hP hD hS (lv_sub hl [5, 6, 7, 0, 1, 3] rfl)
                · refine lv_iload hx hb d_Z_runBytes_96 (lv_at hl 2 rfl) ?_
                  refine lv_iconst (v := 3) hx hb d_Z_runBytes_98 (by decide) ?_
                  refine lv_icmp_eq (tgt := 109) hx hb d_Z_runBytes_99 (by decide) (fun c_99 => ?_) (fun c_99 => ?_)
                  · refine lv_aload_n hx hb d_Z_runBytes_109 rfl (lv_at hl 3 rfl) ?_
                    refine va_get (ci := 5) (v := .ref y12) (C := R_Z) (T := T_Z) (N := 26) hx hb ht in_Z hown hK.1 hP 0 rfl rfl 18 (by decide) (ht _ k_fl_Z_44) (fun _ h9 => h9) rfl d_Z_runBytes_110 ?_
                    refine lv_iload hx hb d_Z_runBytes_113 (lv_at hl 7 rfl) ?_
                    refine lv_iload hx hb d_Z_runBytes_115 (lv_at hl 2 rfl) ?_
                    refine lv_iconst (v := 1) hx hb d_Z_runBytes_117 (by decide) ?_
                    refine lv_icmp_ne (tgt := 137) hx hb d_Z_runBytes_118 (by decide) (fun c_118 => ?_) (fun c_118 => ?_)
                    · refine lv_aload_n hx hb d_Z_runBytes_137 rfl (lv_at hl 3 rfl) ?_
                      refine lv_iload_n hx hb d_Z_runBytes_138 rfl (lv_at hl 6 rfl) ?_
                      refine goRi (va_runV (As := [.int p1]) (rest := [.int nn, .ref y12]) ⟨hx, hb, hml, hown, hts⟩ (c_Z_pushed l D cI cL cO z0 y1 y2 y3 y4 y5 y6 y7 y8 y9 y10 y11 y12 y13 y14 mn oo oa ob ss gg zz md sd da rg1 pp1 kp ot th li bl nw wr ru al sp1 en1 ke kb at0 p1 (by rw [hp]; exact in300 hk ⟨ha0, by omega⟩) (by have hl := hlen; rw [c_99, show (zleF 3).toInt = 5 by decide] at hl; exact (vwj (f := md) hk hp (j := 1) (m := 1) (by decide) (by decide) ha0 (by omega)).2) (fun _ => by have hl := hlen; rw [c_99, show (zleF 3).toInt = 5 by decide] at hl; exact ⟨(vwj (f := md) hk hp (j := 2) (m := 2) (by decide) (by decide) ha0 (by omega)).2, (vwj (f := md) hk hp (j := 3) (m := 3) (by decide) (by decide) ha0 (by omega)).2, (vwj (f := md) hk hp (j := 4) (m := 4) (by decide) (by decide) ha0 (by omega)).2⟩)) (cwV 1 hts (gBIG (m4 k_ml_Z_134 k_im_Z_pushed k_sel_Z_pushed k_ini_Z) k_co_Z_pushed) rfl rfl rfl (by decide +kernel) ⟨Nat.le_of_ble_eq_true rfl, Nat.le_of_ble_eq_true rfl⟩) ⟨PR.bl, va_recv hK.1 ((P_app.mp hP).1) (ci := 5) (q0 := 0) rfl rfl, PR.pre ((P_app.mp hP).1) hK⟩ rfl rfl hl.1 rfl (lv_room (Nat.le_of_ble_eq_true rfl)) d_Z_runBytes_139 ⟨Nat.le_of_ble_eq_true rfl, Nat.le_of_ble_eq_true rfl⟩) ?_
                      refine lv_i2l (v := (zpsF (md p1.toNatClampNeg) (md (p1 + 1).toNatClampNeg) (md (p1 + 2).toNatClampNeg) (md (p1 + 3).toNatClampNeg) (md (p1 + 4).toNatClampNeg)).toInt64) hx hb d_Z_runBytes_142 rfl ?_
                      refine va_last hx hb hK.1 hP hD hS 12 1 rfl rfl (in8 hg0 hg4) d_Z_runBytes_143 (fun H locs hP hD hS => ?_)
                      have hP : va_P D vwCl ((wZ cI cL z0 y1 y2 y3 y4 y5 y6 y7 y8 y9 y10 y11 y12 y13 y14 mn oo oa ob ss gg zz md sd da rg1 (vp_updL pp1 nn.toNatClampNeg ((zpsF (md p1.toNatClampNeg) (md (p1 + 1).toNatClampNeg) (md (p1 + 2).toNatClampNeg) (md (p1 + 3).toNatClampNeg) (md (p1 + 4).toNatClampNeg)).toInt64)) kp ot th li bl nw wr ru al sp1 en1 ke kb at0) ++ fr) H := hP
                      have hD : va_D A ((wZ cI cL z0 y1 y2 y3 y4 y5 y6 y7 y8 y9 y10 y11 y12 y13 y14 mn oo oa ob ss gg zz md sd da rg1 (vp_updL pp1 nn.toNatClampNeg ((zpsF (md p1.toNatClampNeg) (md (p1 + 1).toNatClampNeg) (md (p1 + 2).toNatClampNeg) (md (p1 + 3).toNatClampNeg) (md (p1 + 4).toNatClampNeg)).toInt64)) kp ot th li bl nw wr ru al sp1 en1 ke kb at0) ++ fr) := hD
                      refine lv_iinc (v := nn + 1) (lv' := [(4, .int (nn + 1)), (7, .int (p1 + (zleF (vw 300 md k at1.toNatClampNeg)))), (5, .int 1), (6, .int (vw 300 md k at1.toNatClampNeg)), (0, .ref z0), (1, .int k), (2, .int (300 * k)), (3, .int p1)]) hx hb d_Z_runBytes_144 hl (k := 7) rfl rfl (by decide) rfl (fun ls hl => ?_)
                      refine lv_goto (tgt := 306) hx hb d_Z_runBytes_147 (by decide) ?_
                      refine lv_iload hx hb d_Z_runBytes_306 (lv_at hl 1 rfl) ?_
                      refine lv_istore_n (lv' := [(3, .int (p1 + (zleF (vw 300 md k at1.toNatClampNeg)))), (4, .int (nn + 1)), (7, .int (p1 + (zleF (vw 300 md k at1.toNatClampNeg)))), (5, .int 1), (6, .int (vw 300 md k at1.toNatClampNeg)), (0, .ref z0), (1, .int k), (2, .int (300 * k))]) hx hb d_Z_runBytes_308 rfl hl (by decide) rfl (fun ls hl => ?_)
                      refine lv_goto (tgt := 14) hx hb d_Z_runBytes_309 (by decide) ?_
                      exact ih (p1 + (zleF (vw 300 md k at1.toNatClampNeg))) (nn + 1) 1 rg1 (vp_updL pp1 nn.toNatClampNeg ((zpsF (md p1.toNatClampNeg) (md (p1 + 1).toNatClampNeg) (md (p1 + 2).toNatClampNeg) (md (p1 + 3).toNatClampNeg) (md (p1 + 4).toNatClampNeg)).toInt64)) sp1 en1 (at1 + zleF (vw 300 md k at1.toNatClampNeg)) (kk + 1) _ _ ls (Or.inl ⟨c_18, (by rw [hp, Int32.add_assoc]), (fun z => absurd z (by decide)), (by rw [hcv3 md hp c_99]; exact byC_3 hY hR hB (his c_42) c_99)⟩) hP hD hS (lv_sub hl [5, 6, 7, 0, 1, 3] rfl)
                    · exact absurd c_118 c_93
                  · refine lv_iload hx hb d_Z_runBytes_102 (lv_at hl 2 rfl) ?_
                    refine lv_bipush (v := 16) hx hb d_Z_runBytes_104 (by decide) ?_
                    refine lv_icmp_ne (tgt := 150) hx hb d_Z_runBytes_106 (by decide) (fun c_106 => ?_) (fun c_106 => ?_)
                    · refine lv_iload hx hb d_Z_runBytes_150 (lv_at hl 1 rfl) ?_
                      refine lv_if_eq (tgt := 242) hx hb d_Z_runBytes_152 (by decide) (fun c_152 => ?_) (fun c_152 => ?_)
                      · exact absurd c_152 (by decide)
                      · refine lv_iinc (v := nn + (-1)) (lv' := [(4, .int (nn + (-1))), (7, .int (p1 + (zleF (vw 300 md k at1.toNatClampNeg)))), (5, .int 1), (6, .int (vw 300 md k at1.toNatClampNeg)), (0, .ref z0), (1, .int k), (2, .int (300 * k)), (3, .int p1)]) hx hb d_Z_runBytes_155 hl (k := 7) rfl rfl (by decide) rfl (fun ls hl => ?_)
                        refine lv_aload_n hx hb d_Z_runBytes_158 rfl (lv_at hl 4 rfl) ?_
                        refine lv_dup hx hb d_Z_runBytes_159 rfl ?_
                        refine va_get (ci := 5) (v := .int sp1) (C := R_Z) (T := T_Z) (N := 26) hx hb ht in_Z hown hK.1 hP 0 rfl rfl 19 (by decide) (ht _ k_fl_Z_124) (fun _ h9 => h9) rfl d_Z_runBytes_160 ?_
                        refine lv_iconst (v := 1) hx hb d_Z_runBytes_163 (by decide) ?_
                        refine lv_iadd hx hb d_Z_runBytes_164 ?_
                        refine va_put (ci := 5) (v := .int (sp1 + 1)) (ty := .int) (C := R_Z) (T := T_Z) (N := 26) hx hb ht in_Z t_Z t_Z_ok n_Z hown hK.1 hP hD hS 0 rfl rfl 19 (by decide) (ht _ k_fl_Z_124) (fun _ h9 => h9) rfl (by decide +kernel) rfl rfl (Nat.le_of_ble_eq_true rfl) d_Z_runBytes_165 (fun H locs hP hD hS => ?_)
                        have hP : va_P D vwCl ((wZ cI cL z0 y1 y2 y3 y4 y5 y6 y7 y8 y9 y10 y11 y12 y13 y14 mn oo oa ob ss gg zz md sd da rg1 pp1 kp ot th li bl nw wr ru al (sp1 + 1) en1 ke kb at0) ++ fr) H := hP
                        have hD : va_D A ((wZ cI cL z0 y1 y2 y3 y4 y5 y6 y7 y8 y9 y10 y11 y12 y13 y14 mn oo oa ob ss gg zz md sd da rg1 pp1 kp ot th li bl nw wr ru al (sp1 + 1) en1 ke kb at0) ++ fr) := hD
                        refine lv_iload hx hb d_Z_runBytes_168 (lv_at hl 3 rfl) ?_
                        refine lv_iconst (v := 2) hx hb d_Z_runBytes_170 (by decide) ?_
                        refine lv_icmp_ne (tgt := 197) hx hb d_Z_runBytes_171 (by decide) (fun c_171 => ?_) (fun c_171 => ?_)
                        · refine lv_aload_n hx hb d_Z_runBytes_197 rfl (lv_at hl 4 rfl) ?_
                          refine va_get (ci := 5) (v := .ref y12) (C := R_Z) (T := T_Z) (N := 26) hx hb ht in_Z hown hK.1 hP 0 rfl rfl 18 (by decide) (ht _ k_fl_Z_44) (fun _ h9 => h9) rfl d_Z_runBytes_198 ?_
                          refine lv_iload hx hb d_Z_runBytes_201 (lv_at hl 0 rfl) ?_
                          refine va_lald hx hb hK.1 hP 12 1 rfl rfl (in8m (by have := ta_ge hRa hge; rw [c_71, show (ztaF 9).toInt = 1 by decide] at this; omega) hg4).1 d_Z_runBytes_203 ?_
                          refine lv_lconst (v := 0) hx hb d_Z_runBytes_204 (by decide) ?_
                          refine W.lcmp hx hb d_Z_runBytes_205 ?_
                          refine lv_if_eq (tgt := 235) hx hb d_Z_runBytes_206 (by decide) (fun c_206 => ?_) (fun c_206 => ?_)
                          · refine lv_iload hx hb d_Z_runBytes_235 (lv_at hl 1 rfl) ?_
                            refine lv_istore (lv' := [(7, .int (p1 + (zleF (vw 300 md k at1.toNatClampNeg)))), (4, .int (nn + (-1))), (5, .int 1), (6, .int (vw 300 md k at1.toNatClampNeg)), (0, .ref z0), (1, .int k), (2, .int (300 * k)), (3, .int p1)]) hx hb d_Z_runBytes_237 hl (by decide) rfl (fun ls hl => ?_)
                            refine lv_goto (tgt := 306) hx hb d_Z_runBytes_239 (by decide) ?_
                            refine lv_iload hx hb d_Z_runBytes_306 (lv_at hl 0 rfl) ?_
                            refine lv_istore_n (lv' := [(3, .int (p1 + (zleF (vw 300 md k at1.toNatClampNeg)))), (7, .int (p1 + (zleF (vw 300 md k at1.toNatClampNeg)))), (4, .int (nn + (-1))), (5, .int 1), (6, .int (vw 300 md k at1.toNatClampNeg)), (0, .ref z0), (1, .int k), (2, .int (300 * k))]) hx hb d_Z_runBytes_308 rfl hl (by decide) rfl (fun ls hl => ?_)
                            refine lv_goto (tgt := 14) hx hb d_Z_runBytes_309 (by decide) ?_
                            exact ih (p1 + (zleF (vw 300 md k at1.toNatClampNeg))) (nn + (-1)) 1 rg1 pp1 (sp1 + 1) en1 (at1 + zleF (vw 300 md k at1.toNatClampNeg)) (kk + 1) _ _ ls (Or.inl ⟨c_18, (by rw [hp, Int32.add_assoc]), (fun z => absurd z (by decide)), byC_9f hR hB (his c_42) c_71 c_206⟩) hP hD hS (lv_sub hl [5, 6, 7, 0, 2, 3] rfl)
                          · refine lv_iload_n hx hb d_Z_runBytes_209 rfl (lv_at hl 6 rfl) ?_
                            refine lv_sipush (v := 256) hx hb d_Z_runBytes_210 (by decide) ?_
                            refine lv_aload_n hx hb d_Z_runBytes_213 rfl (lv_at hl 4 rfl) ?_
                            refine va_get (ci := 5) (v := .ref y8) (C := R_Z) (T := T_Z) (N := 26) hx hb ht in_Z hown hK.1 hP 0 rfl rfl 14 (by decide) (ht _ k_fl_Z_31) (fun _ h9 => h9) rfl d_Z_runBytes_214 ?_
                            refine lv_iload_n hx hb d_Z_runBytes_217 rfl (lv_at hl 7 rfl) ?_
                            refine lv_iconst (v := 1) hx hb d_Z_runBytes_218 (by decide) ?_
                            refine lv_iadd hx hb d_Z_runBytes_219 ?_
                            refine va_iald hx hb hK.1 hP 8 0 rfl rfl (vwj (f := md) hk hp (j := 1) (m := 1) (by decide) (by decide) ha0 (by have := (byC_9t hY hR hB (his c_42) c_71 c_206).2; omega)).2 d_Z_runBytes_220 ?_
                            rw [show md (p1 + 1).toNatClampNeg = vw 300 md k (at1 + 1).toNatClampNeg from (vwj (f := md) hk hp (j := 1) (m := 1) (by decide) (by decide) ha0 (by have := (byC_9t hY hR hB (his c_42) c_71 c_206).2; omega)).1]
                            refine lv_imul hx hb d_Z_runBytes_221 ?_
                            refine lv_iadd hx hb d_Z_runBytes_222 ?_
                            refine lv_aload_n hx hb d_Z_runBytes_223 rfl (lv_at hl 4 rfl) ?_
                            refine va_get (ci := 5) (v := .ref y8) (C := R_Z) (T := T_Z) (N := 26) hx hb ht in_Z hown hK.1 hP 0 rfl rfl 14 (by decide) (ht _ k_fl_Z_31) (fun _ h9 => h9) rfl d_Z_runBytes_224 ?_
                            refine lv_iload_n hx hb d_Z_runBytes_227 rfl (lv_at hl 7 rfl) ?_
                            refine lv_iconst (v := 2) hx hb d_Z_runBytes_228 (by decide) ?_
                            refine lv_iadd hx hb d_Z_runBytes_229 ?_
                            refine va_iald hx hb hK.1 hP 8 0 rfl rfl (vwj (f := md) hk hp (j := 2) (m := 2) (by decide) (by decide) ha0 (by have := (byC_9t hY hR hB (his c_42) c_71 c_206).2; omega)).2 d_Z_runBytes_230 ?_
                            rw [show md (p1 + 2).toNatClampNeg = vw 300 md k (at1 + 2).toNatClampNeg from (vwj (f := md) hk hp (j := 2) (m := 2) (by decide) (by decide) ha0 (by have := (byC_9t hY hR hB (his c_42) c_71 c_206).2; omega)).1]
                            refine lv_iadd hx hb d_Z_runBytes_231 ?_
                            refine lv_goto (tgt := 237) hx hb d_Z_runBytes_232 (by decide) ?_
                            refine lv_istore (lv' := [(7, .int (((300 * k) + (256 * (vw 300 md k (at1 + 1).toNatClampNeg))) + (vw 300 md k (at1 + 2).toNatClampNeg))), (4, .int (nn + (-1))), (5, .int 1), (6, .int (vw 300 md k at1.toNatClampNeg)), (0, .ref z0), (1, .int k), (2, .int (300 * k)), (3, .int p1)]) hx hb d_Z_runBytes_237 hl (by decide) rfl (fun ls hl => ?_)
                            refine lv_goto (tgt := 306) hx hb d_Z_runBytes_239 (by decide) ?_
                            refine lv_iload hx hb d_Z_runBytes_306 (lv_at hl 0 rfl) ?_
                            refine lv_istore_n (lv' := [(3, .int (((300 * k) + (256 * (vw 300 md k (at1 + 1).toNatClampNeg))) + (vw 300 md k (at1 + 2).toNatClampNeg))), (7, .int (((300 * k) + (256 * (vw 300 md k (at1 + 1).toNatClampNeg))) + (vw 300 md k (at1 + 2).toNatClampNeg))), (4, .int (nn + (-1))), (5, .int 1), (6, .int (vw 300 md k at1.toNatClampNeg)), (0, .ref z0), (1, .int k), (2, .int (300 * k))]) hx hb d_Z_runBytes_308 rfl hl (by decide) rfl (fun ls hl => ?_)
                            refine lv_goto (tgt := 14) hx hb d_Z_runBytes_309 (by decide) ?_
                            exact ih (((300 * k) + (256 * (vw 300 md k (at1 + 1).toNatClampNeg))) + (vw 300 md k (at1 + 2).toNatClampNeg)) (nn + (-1)) 1 rg1 pp1 (sp1 + 1) en1 (256 * (vw 300 md k (at1 + 1).toNatClampNeg) + (vw 300 md k (at1 + 2).toNatClampNeg)) (kk + 1) _ _ ls (Or.inl ⟨c_18, (Int32.add_assoc _ _ _), (fun z => absurd z (by decide)), (byC_9t hY hR hB (his c_42) c_71 c_206).1⟩) hP hD hS (lv_sub hl [5, 6, 7, 0, 2, 3] rfl)
                        · exact absurd c_171 c_64
                    · refine lv_aload_n hx hb d_Z_runBytes_109 rfl (lv_at hl 3 rfl) ?_
                      refine va_get (ci := 5) (v := .ref y12) (C := R_Z) (T := T_Z) (N := 26) hx hb ht in_Z hown hK.1 hP 0 rfl rfl 18 (by decide) (ht _ k_fl_Z_44) (fun _ h9 => h9) rfl d_Z_runBytes_110 ?_
                      refine lv_iload hx hb d_Z_runBytes_113 (lv_at hl 7 rfl) ?_
                      refine lv_iload hx hb d_Z_runBytes_115 (lv_at hl 2 rfl) ?_
                      refine lv_iconst (v := 1) hx hb d_Z_runBytes_117 (by decide) ?_
                      refine lv_icmp_ne (tgt := 137) hx hb d_Z_runBytes_118 (by decide) (fun c_118 => ?_) (fun c_118 => ?_)
                      · refine lv_aload_n hx hb d_Z_runBytes_137 rfl (lv_at hl 3 rfl) ?_
                        refine lv_iload_n hx hb d_Z_runBytes_138 rfl (lv_at hl 6 rfl) ?_
                        refine goRi (va_runV (As := [.int p1]) (rest := [.int nn, .ref y12]) ⟨hx, hb, hml, hown, hts⟩ (c_Z_pushed l D cI cL cO z0 y1 y2 y3 y4 y5 y6 y7 y8 y9 y10 y11 y12 y13 y14 mn oo oa ob ss gg zz md sd da rg1 pp1 kp ot th li bl nw wr ru al sp1 en1 ke kb at0 p1 (by rw [hp]; exact in300 hk ⟨ha0, by omega⟩) (by have hl := hlen; rw [c_106, show (zleF 16).toInt = 2 by decide] at hl; exact (vwj (f := md) hk hp (j := 1) (m := 1) (by decide) (by decide) ha0 (by omega)).2) (fun z => absurd (show md p1.toNatClampNeg = 16 by rw [show md p1.toNatClampNeg = vw 300 md k at1.toNatClampNeg from (by rw [hp]; exact vw300 hk ⟨ha0, by omega⟩)]; exact c_106) z)) (cwV 1 hts (gBIG (m4 k_ml_Z_134 k_im_Z_pushed k_sel_Z_pushed k_ini_Z) k_co_Z_pushed) rfl rfl rfl (by decide +kernel) ⟨Nat.le_of_ble_eq_true rfl, Nat.le_of_ble_eq_true rfl⟩) ⟨PR.bl, va_recv hK.1 ((P_app.mp hP).1) (ci := 5) (q0 := 0) rfl rfl, PR.pre ((P_app.mp hP).1) hK⟩ rfl rfl hl.1 rfl (lv_room (Nat.le_of_ble_eq_true rfl)) d_Z_runBytes_139 ⟨Nat.le_of_ble_eq_true rfl, Nat.le_of_ble_eq_true rfl⟩) ?_
                        refine lv_i2l (v := (zpsF (md p1.toNatClampNeg) (md (p1 + 1).toNatClampNeg) (md (p1 + 2).toNatClampNeg) (md (p1 + 3).toNatClampNeg) (md (p1 + 4).toNatClampNeg)).toInt64) hx hb d_Z_runBytes_142 rfl ?_
                        refine va_last hx hb hK.1 hP hD hS 12 1 rfl rfl (in8 hg0 hg4) d_Z_runBytes_143 (fun H locs hP hD hS => ?_)
                        have hP : va_P D vwCl ((wZ cI cL z0 y1 y2 y3 y4 y5 y6 y7 y8 y9 y10 y11 y12 y13 y14 mn oo oa ob ss gg zz md sd da rg1 (vp_updL pp1 nn.toNatClampNeg ((zpsF (md p1.toNatClampNeg) (md (p1 + 1).toNatClampNeg) (md (p1 + 2).toNatClampNeg) (md (p1 + 3).toNatClampNeg) (md (p1 + 4).toNatClampNeg)).toInt64)) kp ot th li bl nw wr ru al sp1 en1 ke kb at0) ++ fr) H := hP
                        have hD : va_D A ((wZ cI cL z0 y1 y2 y3 y4 y5 y6 y7 y8 y9 y10 y11 y12 y13 y14 mn oo oa ob ss gg zz md sd da rg1 (vp_updL pp1 nn.toNatClampNeg ((zpsF (md p1.toNatClampNeg) (md (p1 + 1).toNatClampNeg) (md (p1 + 2).toNatClampNeg) (md (p1 + 3).toNatClampNeg) (md (p1 + 4).toNatClampNeg)).toInt64)) kp ot th li bl nw wr ru al sp1 en1 ke kb at0) ++ fr) := hD
                        refine lv_iinc (v := nn + 1) (lv' := [(4, .int (nn + 1)), (7, .int (p1 + (zleF (vw 300 md k at1.toNatClampNeg)))), (5, .int 1), (6, .int (vw 300 md k at1.toNatClampNeg)), (0, .ref z0), (1, .int k), (2, .int (300 * k)), (3, .int p1)]) hx hb d_Z_runBytes_144 hl (k := 7) rfl rfl (by decide) rfl (fun ls hl => ?_)
                        refine lv_goto (tgt := 306) hx hb d_Z_runBytes_147 (by decide) ?_
                        refine lv_iload hx hb d_Z_runBytes_306 (lv_at hl 1 rfl) ?_
                        refine lv_istore_n (lv' := [(3, .int (p1 + (zleF (vw 300 md k at1.toNatClampNeg)))), (4, .int (nn + 1)), (7, .int (p1 + (zleF (vw 300 md k at1.toNatClampNeg)))), (5, .int 1), (6, .int (vw 300 md k at1.toNatClampNeg)), (0, .ref z0), (1, .int k), (2, .int (300 * k))]) hx hb d_Z_runBytes_308 rfl hl (by decide) rfl (fun ls hl => ?_)
                        refine lv_goto (tgt := 14) hx hb d_Z_runBytes_309 (by decide) ?_
                        exact ih (p1 + (zleF (vw 300 md k at1.toNatClampNeg))) (nn + 1) 1 rg1 (vp_updL pp1 nn.toNatClampNeg ((zpsF (md p1.toNatClampNeg) (md (p1 + 1).toNatClampNeg) (md (p1 + 2).toNatClampNeg) (md (p1 + 3).toNatClampNeg) (md (p1 + 4).toNatClampNeg)).toInt64)) sp1 en1 (at1 + zleF (vw 300 md k at1.toNatClampNeg)) (kk + 1) _ _ ls (Or.inl ⟨c_18, (by rw [hp, Int32.add_assoc]), (fun z => absurd z (by decide)), (by rw [hcv16 md hp c_106]; exact byC_16 hY hR hB (his c_42) c_106)⟩) hP hD hS (lv_sub hl [5, 6, 7, 0, 1, 3] rfl)
                      · exact absurd c_118 c_93
          · refine lv_aload_n hx hb d_Z_runBytes_45 rfl (lv_at hl 1 rfl) ?_
            refine va_get (ci := 5) (v := .int sp1) (C := R_Z) (T := T_Z) (N := 26) hx hb ht in_Z hown hK.1 hP 0 rfl rfl 19 (by decide) (ht _ k_fl_Z_124) (fun _ h9 => h9) rfl d_Z_runBytes_46 ?_
            refine lv_sipush (v := 2000) hx hb d_Z_runBytes_49 (by decide) ?_
            refine lv_icmp_ne (tgt := 61) hx hb d_Z_runBytes_52 (by decide) (fun c_52 => ?_) (fun c_52 => ?_)
            · refine lv_iload hx hb d_Z_runBytes_61 (lv_at hl 0 rfl) ?_
              refine lv_iconst (v := 2) hx hb d_Z_runBytes_63 (by decide) ?_
              refine lv_icmp_eq (tgt := 74) hx hb d_Z_runBytes_64 (by decide) (fun c_64 => ?_) (fun c_64 => ?_)
              · refine lv_iconst (v := 1) hx hb d_Z_runBytes_74 (by decide) ?_
                refine lv_goto (tgt := 79) hx hb d_Z_runBytes_75 (by decide) ?_
                refine lv_istore (lv' := [(5, .int 1), (6, .int (vw 300 md k at1.toNatClampNeg)), (0, .ref z0), (1, .int k), (2, .int (300 * k)), (3, .int p1), (4, .int nn)]) hx hb d_Z_runBytes_79 hl (by decide) rfl (fun ls hl => ?_)
                refine lv_iload_n hx hb d_Z_runBytes_81 rfl (lv_at hl 5 rfl) ?_
                refine lv_iload hx hb d_Z_runBytes_82 (lv_at hl 1 rfl) ?_
                refine goRi (va_runS (As := [.int (vw 300 md k at1.toNatClampNeg)]) (rest := [.int p1]) ⟨hx, hb, hml, hown, hts⟩ (c_Z_lengthOf l D cI cL cO (vw 300 md k at1.toNatClampNeg)) (cwS 1 hts (gBIG (m3 k_ml_Z_102 k_st_Z_lengthOf k_ini_Z) k_co_Z_lengthOf) rfl rfl rfl (by decide +kernel) ⟨Nat.le_of_ble_eq_true rfl, Nat.le_of_ble_eq_true rfl⟩) ⟨PR.bl, PR.pre P_nil hK⟩ rfl rfl hl.1 rfl (lv_room (Nat.le_of_ble_eq_true rfl)) d_Z_runBytes_84 ⟨Nat.le_of_ble_eq_true rfl, Nat.le_of_ble_eq_true rfl⟩) ?_
                refine lv_iadd hx hb d_Z_runBytes_87 ?_
                refine lv_istore (lv' := [(7, .int (p1 + (zleF (vw 300 md k at1.toNatClampNeg)))), (5, .int 1), (6, .int (vw 300 md k at1.toNatClampNeg)), (0, .ref z0), (1, .int k), (2, .int (300 * k)), (3, .int p1), (4, .int nn)]) hx hb d_Z_runBytes_88 hl (by decide) rfl (fun ls hl => ?_)
                refine lv_iload hx hb d_Z_runBytes_90 (lv_at hl 2 rfl) ?_
                refine lv_iconst (v := 1) hx hb d_Z_runBytes_92 (by decide) ?_
                refine lv_icmp_eq (tgt := 109) hx hb d_Z_runBytes_93 (by decide) (fun c_93 => ?_) (fun c_93 => ?_)
                · refine lv_aload_n hx hb d_Z_runBytes_109 rfl (lv_at hl 3 rfl) ?_
                  refine va_get (ci := 5) (v := .ref y12) (C := R_Z) (T := T_Z) (N := 26) hx hb ht in_Z hown hK.1 hP 0 rfl rfl 18 (by decide) (ht _ k_fl_Z_44) (fun _ h9 => h9) rfl d_Z_runBytes_110 ?_
                  refine lv_iload hx hb d_Z_runBytes_113 (lv_at hl 7 rfl) ?_
                  refine lv_iload hx hb d_Z_runBytes_115 (lv_at hl 2 rfl) ?_
                  refine lv_iconst (v := 1) hx hb d_Z_runBytes_117 (by decide) ?_
                  refine lv_icmp_ne (tgt := 137) hx hb d_Z_runBytes_118 (by decide) (fun c_118 => ?_) (fun c_118 => ?_)
                  · exact absurd c_93 c_118
                  · refine lv_aload_n hx hb d_Z_runBytes_121 rfl (lv_at hl 3 rfl) ?_
                    refine va_get (ci := 5) (v := .ref y11) (C := R_Z) (T := T_Z) (N := 26) hx hb ht in_Z hown hK.1 hP 0 rfl rfl 17 (by decide) (ht _ k_fl_Z_40) (fun _ h9 => h9) rfl d_Z_runBytes_122 ?_
                    refine lv_aload_n hx hb d_Z_runBytes_125 rfl (lv_at hl 3 rfl) ?_
                    refine va_get (ci := 5) (v := .ref y8) (C := R_Z) (T := T_Z) (N := 26) hx hb ht in_Z hown hK.1 hP 0 rfl rfl 14 (by decide) (ht _ k_fl_Z_31) (fun _ h9 => h9) rfl d_Z_runBytes_126 ?_
                    refine lv_iload_n hx hb d_Z_runBytes_129 rfl (lv_at hl 6 rfl) ?_
                    refine lv_iconst (v := 1) hx hb d_Z_runBytes_130 (by decide) ?_
                    refine lv_iadd hx hb d_Z_runBytes_131 ?_
                    refine va_iald hx hb hK.1 hP 8 0 rfl rfl (vwj (f := md) hk hp (j := 1) (m := 1) (by decide) (by decide) ha0 (by have := (op_r hY hR hB (Or.inl c_93)).1; omega)).2 d_Z_runBytes_132 ?_
                    rw [show md (p1 + 1).toNatClampNeg = vw 300 md k (at1 + 1).toNatClampNeg from (vwj (f := md) hk hp (j := 1) (m := 1) (by decide) (by decide) ha0 (by have := (op_r hY hR hB (Or.inl c_93)).1; omega)).1]
                    refine va_lald hx hb hK.1 hP 11 1 rfl rfl (in4 (op_r hY hR hB (Or.inl c_93)).2.2) d_Z_runBytes_133 ?_
                    refine lv_goto (tgt := 143) hx hb d_Z_runBytes_134 (by decide) ?_
                    refine va_last hx hb hK.1 hP hD hS 12 1 rfl rfl (in8 hg0 hg4) d_Z_runBytes_143 (fun H locs hP hD hS => ?_)
                    have hP : va_P D vwCl ((wZ cI cL z0 y1 y2 y3 y4 y5 y6 y7 y8 y9 y10 y11 y12 y13 y14 mn oo oa ob ss gg zz md sd da rg1 (vp_updL pp1 nn.toNatClampNeg (rg1 (vw 300 md k (at1 + 1).toNatClampNeg).toNatClampNeg)) kp ot th li bl nw wr ru al sp1 en1 ke kb at0) ++ fr) H := hP
                    have hD : va_D A ((wZ cI cL z0 y1 y2 y3 y4 y5 y6 y7 y8 y9 y10 y11 y12 y13 y14 mn oo oa ob ss gg zz md sd da rg1 (vp_updL pp1 nn.toNatClampNeg (rg1 (vw 300 md k (at1 + 1).toNatClampNeg).toNatClampNeg)) kp ot th li bl nw wr ru al sp1 en1 ke kb at0) ++ fr) := hD
                    refine lv_iinc (v := nn + 1) (lv' := [(4, .int (nn + 1)), (7, .int (p1 + (zleF (vw 300 md k at1.toNatClampNeg)))), (5, .int 1), (6, .int (vw 300 md k at1.toNatClampNeg)), (0, .ref z0), (1, .int k), (2, .int (300 * k)), (3, .int p1)]) hx hb d_Z_runBytes_144 hl (k := 7) rfl rfl (by decide) rfl (fun ls hl => ?_)
                    refine lv_goto (tgt := 306) hx hb d_Z_runBytes_147 (by decide) ?_
                    refine lv_iload hx hb d_Z_runBytes_306 (lv_at hl 1 rfl) ?_
                    refine lv_istore_n (lv' := [(3, .int (p1 + (zleF (vw 300 md k at1.toNatClampNeg)))), (4, .int (nn + 1)), (7, .int (p1 + (zleF (vw 300 md k at1.toNatClampNeg)))), (5, .int 1), (6, .int (vw 300 md k at1.toNatClampNeg)), (0, .ref z0), (1, .int k), (2, .int (300 * k))]) hx hb d_Z_runBytes_308 rfl hl (by decide) rfl (fun ls hl => ?_)
                    refine lv_goto (tgt := 14) hx hb d_Z_runBytes_309 (by decide) ?_
                    exact ih (p1 + (zleF (vw 300 md k at1.toNatClampNeg))) (nn + 1) 1 rg1 (vp_updL pp1 nn.toNatClampNeg (rg1 (vw 300 md k (at1 + 1).toNatClampNeg).toNatClampNeg)) sp1 en1 (at1 + zleF (vw 300 md k at1.toNatClampNeg)) (kk + 1) _ _ ls (Or.inl ⟨c_18, (by rw [hp, Int32.add_assoc]), (fun z => absurd z (by decide)), byC_1 hY hR hB (ne2000 hB.2.2.2.2.1 c_52) c_93⟩) hP hD hS (lv_sub hl [5, 6, 7, 0, 1, 3] rfl)
                · refine lv_iload hx hb d_Z_runBytes_96 (lv_at hl 2 rfl) ?_
                  refine lv_iconst (v := 3) hx hb d_Z_runBytes_98 (by decide) ?_
                  refine lv_icmp_eq (tgt := 109) hx hb d_Z_runBytes_99 (by decide) (fun c_99 => ?_) (fun c_99 => ?_)
                  · refine lv_aload_n hx hb d_Z_runBytes_109 rfl (lv_at hl 3 rfl) ?_
                    refine va_get (ci := 5) (v := .ref y12) (C := R_Z) (T := T_Z) (N := 26) hx hb ht in_Z hown hK.1 hP 0 rfl rfl 18 (by decide) (ht _ k_fl_Z_44) (fun _ h9 => h9) rfl d_Z_runBytes_110 ?_
                    refine lv_iload hx hb d_Z_runBytes_113 (lv_at hl 7 rfl) ?_
                    refine lv_iload hx hb d_Z_runBytes_115 (lv_at hl 2 rfl) ?_
                    refine lv_iconst (v := 1) hx hb d_Z_runBytes_117 (by decide) ?_
                    refine lv_icmp_ne (tgt := 137) hx hb d_Z_runBytes_118 (by decide) (fun c_118 => ?_) (fun c_118 => ?_)
                    · refine lv_aload_n hx hb d_Z_runBytes_137 rfl (lv_at hl 3 rfl) ?_
                      refine lv_iload_n hx hb d_Z_runBytes_138 rfl (lv_at hl 6 rfl) ?_
                      refine goRi (va_runV (As := [.int p1]) (rest := [.int nn, .ref y12]) ⟨hx, hb, hml, hown, hts⟩ (c_Z_pushed l D cI cL cO z0 y1 y2 y3 y4 y5 y6 y7 y8 y9 y10 y11 y12 y13 y14 mn oo oa ob ss gg zz md sd da rg1 pp1 kp ot th li bl nw wr ru al sp1 en1 ke kb at0 p1 (by rw [hp]; exact in300 hk ⟨ha0, by omega⟩) (by have hl := hlen; rw [c_99, show (zleF 3).toInt = 5 by decide] at hl; exact (vwj (f := md) hk hp (j := 1) (m := 1) (by decide) (by decide) ha0 (by omega)).2) (fun _ => by have hl := hlen; rw [c_99, show (zleF 3).toInt = 5 by decide] at hl; exact ⟨(vwj (f := md) hk hp (j := 2) (m := 2) (by decide) (by decide) ha0 (by omega)).2, (vwj (f := md) hk hp (j := 3) (m := 3) (by decide) (by decide) ha0 (by omega)).2, (vwj (f := md) hk hp (j := 4) (m := 4) (by decide) (by decide) ha0 (by omega)).2⟩)) (cwV 1 hts (gBIG (m4 k_ml_Z_134 k_im_Z_pushed k_sel_Z_pushed k_ini_Z) k_co_Z_pushed) rfl rfl rfl (by decide +kernel) ⟨Nat.le_of_ble_eq_true rfl, Nat.le_of_ble_eq_true rfl⟩) ⟨PR.bl, va_recv hK.1 ((P_app.mp hP).1) (ci := 5) (q0 := 0) rfl rfl, PR.pre ((P_app.mp hP).1) hK⟩ rfl rfl hl.1 rfl (lv_room (Nat.le_of_ble_eq_true rfl)) d_Z_runBytes_139 ⟨Nat.le_of_ble_eq_true rfl, Nat.le_of_ble_eq_true rfl⟩) ?_
                      refine lv_i2l (v := (zpsF (md p1.toNatClampNeg) (md (p1 + 1).toNatClampNeg) (md (p1 + 2).toNatClampNeg) (md (p1 + 3).toNatClampNeg) (md (p1 + 4).toNatClampNeg)).toInt64) hx hb d_Z_runBytes_142 rfl ?_
                      refine va_last hx hb hK.1 hP hD hS 12 1 rfl rfl (in8 hg0 hg4) d_Z_runBytes_143 (fun H locs hP hD hS => ?_)
                      have hP : va_P D vwCl ((wZ cI cL z0 y1 y2 y3 y4 y5 y6 y7 y8 y9 y10 y11 y12 y13 y14 mn oo oa ob ss gg zz md sd da rg1 (vp_updL pp1 nn.toNatClampNeg ((zpsF (md p1.toNatClampNeg) (md (p1 + 1).toNatClampNeg) (md (p1 + 2).toNatClampNeg) (md (p1 + 3).toNatClampNeg) (md (p1 + 4).toNatClampNeg)).toInt64)) kp ot th li bl nw wr ru al sp1 en1 ke kb at0) ++ fr) H := hP
                      have hD : va_D A ((wZ cI cL z0 y1 y2 y3 y4 y5 y6 y7 y8 y9 y10 y11 y12 y13 y14 mn oo oa ob ss gg zz md sd da rg1 (vp_updL pp1 nn.toNatClampNeg ((zpsF (md p1.toNatClampNeg) (md (p1 + 1).toNatClampNeg) (md (p1 + 2).toNatClampNeg) (md (p1 + 3).toNatClampNeg) (md (p1 + 4).toNatClampNeg)).toInt64)) kp ot th li bl nw wr ru al sp1 en1 ke kb at0) ++ fr) := hD
                      refine lv_iinc (v := nn + 1) (lv' := [(4, .int (nn + 1)), (7, .int (p1 + (zleF (vw 300 md k at1.toNatClampNeg)))), (5, .int 1), (6, .int (vw 300 md k at1.toNatClampNeg)), (0, .ref z0), (1, .int k), (2, .int (300 * k)), (3, .int p1)]) hx hb d_Z_runBytes_144 hl (k := 7) rfl rfl (by decide) rfl (fun ls hl => ?_)
                      refine lv_goto (tgt := 306) hx hb d_Z_runBytes_147 (by decide) ?_
                      refine lv_iload hx hb d_Z_runBytes_306 (lv_at hl 1 rfl) ?_
                      refine lv_istore_n (lv' := [(3, .int (p1 + (zleF (vw 300 md k at1.toNatClampNeg)))), (4, .int (nn + 1)), (7, .int (p1 + (zleF (vw 300 md k at1.toNatClampNeg)))), (5, .int 1), (6, .int (vw 300 md k at1.toNatClampNeg)), (0, .ref z0), (1, .int k), (2, .int (300 * k))]) hx hb d_Z_runBytes_308 rfl hl (by decide) rfl (fun ls hl => ?_)
                      refine lv_goto (tgt := 14) hx hb d_Z_runBytes_309 (by decide) ?_
                      exact ih (p1 + (zleF (vw 300 md k at1.toNatClampNeg))) (nn + 1) 1 rg1 (vp_updL pp1 nn.toNatClampNeg ((zpsF (md p1.toNatClampNeg) (md (p1 + 1).toNatClampNeg) (md (p1 + 2).toNatClampNeg) (md (p1 + 3).toNatClampNeg) (md (p1 + 4).toNatClampNeg)).toInt64)) sp1 en1 (at1 + zleF (vw 300 md k at1.toNatClampNeg)) (kk + 1) _ _ ls (Or.inl ⟨c_18, (by rw [hp, Int32.add_assoc]), (fun z => absurd z (by decide)), (by rw [hcv3 md hp c_99]; exact byC_3 hY hR hB (ne2000 hB.2.2.2.2.1 c_52) c_99)⟩) hP hD hS (lv_sub hl [5, 6, 7, 0, 1, 3] rfl)
                    · exact absurd c_118 c_93
                  · refine lv_iload hx hb d_Z_runBytes_102 (lv_at hl 2 rfl) ?_
                    refine lv_bipush (v := 16) hx hb d_Z_runBytes_104 (by decide) ?_
                    refine lv_icmp_ne (tgt := 150) hx hb d_Z_runBytes_106 (by decide) (fun c_106 => ?_) (fun c_106 => ?_)
                    · refine lv_iload hx hb d_Z_runBytes_150 (lv_at hl 1 rfl) ?_
                      refine lv_if_eq (tgt := 242) hx hb d_Z_runBytes_152 (by decide) (fun c_152 => ?_) (fun c_152 => ?_)
                      · exact absurd c_152 (by decide)
                      · refine lv_iinc (v := nn + (-1)) (lv' := [(4, .int (nn + (-1))), (7, .int (p1 + (zleF (vw 300 md k at1.toNatClampNeg)))), (5, .int 1), (6, .int (vw 300 md k at1.toNatClampNeg)), (0, .ref z0), (1, .int k), (2, .int (300 * k)), (3, .int p1)]) hx hb d_Z_runBytes_155 hl (k := 7) rfl rfl (by decide) rfl (fun ls hl => ?_)
                        refine lv_aload_n hx hb d_Z_runBytes_158 rfl (lv_at hl 4 rfl) ?_
                        refine lv_dup hx hb d_Z_runBytes_159 rfl ?_
                        refine va_get (ci := 5) (v := .int sp1) (C := R_Z) (T := T_Z) (N := 26) hx hb ht in_Z hown hK.1 hP 0 rfl rfl 19 (by decide) (ht _ k_fl_Z_124) (fun _ h9 => h9) rfl d_Z_runBytes_160 ?_
                        refine lv_iconst (v := 1) hx hb d_Z_runBytes_163 (by decide) ?_
                        refine lv_iadd hx hb d_Z_runBytes_164 ?_
                        refine va_put (ci := 5) (v := .int (sp1 + 1)) (ty := .int) (C := R_Z) (T := T_Z) (N := 26) hx hb ht in_Z t_Z t_Z_ok n_Z hown hK.1 hP hD hS 0 rfl rfl 19 (by decide) (ht _ k_fl_Z_124) (fun _ h9 => h9) rfl (by decide +kernel) rfl rfl (Nat.le_of_ble_eq_true rfl) d_Z_runBytes_165 (fun H locs hP hD hS => ?_)
                        have hP : va_P D vwCl ((wZ cI cL z0 y1 y2 y3 y4 y5 y6 y7 y8 y9 y10 y11 y12 y13 y14 mn oo oa ob ss gg zz md sd da rg1 pp1 kp ot th li bl nw wr ru al (sp1 + 1) en1 ke kb at0) ++ fr) H := hP
                        have hD : va_D A ((wZ cI cL z0 y1 y2 y3 y4 y5 y6 y7 y8 y9 y10 y11 y12 y13 y14 mn oo oa ob ss gg zz md sd da rg1 pp1 kp ot th li bl nw wr ru al (sp1 + 1) en1 ke kb at0) ++ fr) := hD
                        refine lv_iload hx hb d_Z_runBytes_168 (lv_at hl 3 rfl) ?_
                        refine lv_iconst (v := 2) hx hb d_Z_runBytes_170 (by decide) ?_
                        refine lv_icmp_ne (tgt := 197) hx hb d_Z_runBytes_171 (by decide) (fun c_171 => ?_) (fun c_171 => ?_)
                        · exact absurd c_64 c_171
                        · refine lv_aload_n hx hb d_Z_runBytes_174 rfl (lv_at hl 4 rfl) ?_
                          refine va_get (ci := 5) (v := .ref y11) (C := R_Z) (T := T_Z) (N := 26) hx hb ht in_Z hown hK.1 hP 0 rfl rfl 17 (by decide) (ht _ k_fl_Z_40) (fun _ h9 => h9) rfl d_Z_runBytes_175 ?_
                          refine lv_aload_n hx hb d_Z_runBytes_178 rfl (lv_at hl 4 rfl) ?_
                          refine va_get (ci := 5) (v := .ref y8) (C := R_Z) (T := T_Z) (N := 26) hx hb ht in_Z hown hK.1 hP 0 rfl rfl 14 (by decide) (ht _ k_fl_Z_31) (fun _ h9 => h9) rfl d_Z_runBytes_179 ?_
                          refine lv_iload_n hx hb d_Z_runBytes_182 rfl (lv_at hl 7 rfl) ?_
                          refine lv_iconst (v := 1) hx hb d_Z_runBytes_183 (by decide) ?_
                          refine lv_iadd hx hb d_Z_runBytes_184 ?_
                          refine va_iald hx hb hK.1 hP 8 0 rfl rfl (vwj (f := md) hk hp (j := 1) (m := 1) (by decide) (by decide) ha0 (by have := (op_r hY hR hB (Or.inr c_64)).1; omega)).2 d_Z_runBytes_185 ?_
                          rw [show md (p1 + 1).toNatClampNeg = vw 300 md k (at1 + 1).toNatClampNeg from (vwj (f := md) hk hp (j := 1) (m := 1) (by decide) (by decide) ha0 (by have := (op_r hY hR hB (Or.inr c_64)).1; omega)).1]
                          refine lv_aload_n hx hb d_Z_runBytes_186 rfl (lv_at hl 4 rfl) ?_
                          refine va_get (ci := 5) (v := .ref y12) (C := R_Z) (T := T_Z) (N := 26) hx hb ht in_Z hown hK.1 hP 0 rfl rfl 18 (by decide) (ht _ k_fl_Z_44) (fun _ h9 => h9) rfl d_Z_runBytes_187 ?_
                          refine lv_iload hx hb d_Z_runBytes_190 (lv_at hl 0 rfl) ?_
                          refine va_lald hx hb hK.1 hP 12 1 rfl rfl (in8m (by have := ta_ge hRa hge; rw [c_64, show (ztaF 2).toInt = 1 by decide] at this; omega) hg4).1 d_Z_runBytes_192 ?_
                          refine va_last hx hb hK.1 hP hD hS 11 1 rfl rfl (in4 (op_r hY hR hB (Or.inr c_64)).2.2) d_Z_runBytes_193 (fun H locs hP hD hS => ?_)
                          have hP : va_P D vwCl ((wZ cI cL z0 y1 y2 y3 y4 y5 y6 y7 y8 y9 y10 y11 y12 y13 y14 mn oo oa ob ss gg zz md sd da (vp_updL rg1 (vw 300 md k (at1 + 1).toNatClampNeg).toNatClampNeg (pp1 (nn + (-1)).toNatClampNeg)) pp1 kp ot th li bl nw wr ru al (sp1 + 1) en1 ke kb at0) ++ fr) H := hP
                          have hD : va_D A ((wZ cI cL z0 y1 y2 y3 y4 y5 y6 y7 y8 y9 y10 y11 y12 y13 y14 mn oo oa ob ss gg zz md sd da (vp_updL rg1 (vw 300 md k (at1 + 1).toNatClampNeg).toNatClampNeg (pp1 (nn + (-1)).toNatClampNeg)) pp1 kp ot th li bl nw wr ru al (sp1 + 1) en1 ke kb at0) ++ fr) := hD
                          refine lv_goto (tgt := 306) hx hb d_Z_runBytes_194 (by decide) ?_
                          refine lv_iload hx hb d_Z_runBytes_306 (lv_at hl 1 rfl) ?_
                          refine lv_istore_n (lv' := [(3, .int (p1 + (zleF (vw 300 md k at1.toNatClampNeg)))), (4, .int (nn + (-1))), (7, .int (p1 + (zleF (vw 300 md k at1.toNatClampNeg)))), (5, .int 1), (6, .int (vw 300 md k at1.toNatClampNeg)), (0, .ref z0), (1, .int k), (2, .int (300 * k))]) hx hb d_Z_runBytes_308 rfl hl (by decide) rfl (fun ls hl => ?_)
                          refine lv_goto (tgt := 14) hx hb d_Z_runBytes_309 (by decide) ?_
                          exact ih (p1 + (zleF (vw 300 md k at1.toNatClampNeg))) (nn + (-1)) 1 (vp_updL rg1 (vw 300 md k (at1 + 1).toNatClampNeg).toNatClampNeg (pp1 (nn + (-1)).toNatClampNeg)) pp1 (sp1 + 1) en1 (at1 + zleF (vw 300 md k at1.toNatClampNeg)) (kk + 1) _ _ ls (Or.inl ⟨c_18, (by rw [hp, Int32.add_assoc]), (fun z => absurd z (by decide)), byC_2 hY hR hB (ne2000 hB.2.2.2.2.1 c_52) c_64⟩) hP hD hS (lv_sub hl [5, 6, 7, 0, 1, 3] rfl)
                    · refine lv_aload_n hx hb d_Z_runBytes_109 rfl (lv_at hl 3 rfl) ?_
                      refine va_get (ci := 5) (v := .ref y12) (C := R_Z) (T := T_Z) (N := 26) hx hb ht in_Z hown hK.1 hP 0 rfl rfl 18 (by decide) (ht _ k_fl_Z_44) (fun _ h9 => h9) rfl d_Z_runBytes_110 ?_
                      refine lv_iload hx hb d_Z_runBytes_113 (lv_at hl 7 rfl) ?_
                      refine lv_iload hx hb d_Z_runBytes_115 (lv_at hl 2 rfl) ?_
                      refine lv_iconst (v := 1) hx hb d_Z_runBytes_117 (by decide) ?_
                      refine lv_icmp_ne (tgt := 137) hx hb d_Z_runBytes_118 (by decide) (fun c_118 => ?_) (fun c_118 => ?_)
                      · refine lv_aload_n hx hb d_Z_runBytes_137 rfl (lv_at hl 3 rfl) ?_
                        refine lv_iload_n hx hb d_Z_runBytes_138 rfl (lv_at hl 6 rfl) ?_
                        refine goRi (va_runV (As := [.int p1]) (rest := [.int nn, .ref y12]) ⟨hx, hb, hml, hown, hts⟩ (c_Z_pushed l D cI cL cO z0 y1 y2 y3 y4 y5 y6 y7 y8 y9 y10 y11 y12 y13 y14 mn oo oa ob ss gg zz md sd da rg1 pp1 kp ot th li bl nw wr ru al sp1 en1 ke kb at0 p1 (by rw [hp]; exact in300 hk ⟨ha0, by omega⟩) (by have hl := hlen; rw [c_106, show (zleF 16).toInt = 2 by decide] at hl; exact (vwj (f := md) hk hp (j := 1) (m := 1) (by decide) (by decide) ha0 (by omega)).2) (fun z => absurd (show md p1.toNatClampNeg = 16 by rw [show md p1.toNatClampNeg = vw 300 md k at1.toNatClampNeg from (by rw [hp]; exact vw300 hk ⟨ha0, by omega⟩)]; exact c_106) z)) (cwV 1 hts (gBIG (m4 k_ml_Z_134 k_im_Z_pushed k_sel_Z_pushed k_ini_Z) k_co_Z_pushed) rfl rfl rfl (by decide +kernel) ⟨Nat.le_of_ble_eq_true rfl, Nat.le_of_ble_eq_true rfl⟩) ⟨PR.bl, va_recv hK.1 ((P_app.mp hP).1) (ci := 5) (q0 := 0) rfl rfl, PR.pre ((P_app.mp hP).1) hK⟩ rfl rfl hl.1 rfl (lv_room (Nat.le_of_ble_eq_true rfl)) d_Z_runBytes_139 ⟨Nat.le_of_ble_eq_true rfl, Nat.le_of_ble_eq_true rfl⟩) ?_
                        refine lv_i2l (v := (zpsF (md p1.toNatClampNeg) (md (p1 + 1).toNatClampNeg) (md (p1 + 2).toNatClampNeg) (md (p1 + 3).toNatClampNeg) (md (p1 + 4).toNatClampNeg)).toInt64) hx hb d_Z_runBytes_142 rfl ?_
                        refine va_last hx hb hK.1 hP hD hS 12 1 rfl rfl (in8 hg0 hg4) d_Z_runBytes_143 (fun H locs hP hD hS => ?_)
                        have hP : va_P D vwCl ((wZ cI cL z0 y1 y2 y3 y4 y5 y6 y7 y8 y9 y10 y11 y12 y13 y14 mn oo oa ob ss gg zz md sd da rg1 (vp_updL pp1 nn.toNatClampNeg ((zpsF (md p1.toNatClampNeg) (md (p1 + 1).toNatClampNeg) (md (p1 + 2).toNatClampNeg) (md (p1 + 3).toNatClampNeg) (md (p1 + 4).toNatClampNeg)).toInt64)) kp ot th li bl nw wr ru al sp1 en1 ke kb at0) ++ fr) H := hP
                        have hD : va_D A ((wZ cI cL z0 y1 y2 y3 y4 y5 y6 y7 y8 y9 y10 y11 y12 y13 y14 mn oo oa ob ss gg zz md sd da rg1 (vp_updL pp1 nn.toNatClampNeg ((zpsF (md p1.toNatClampNeg) (md (p1 + 1).toNatClampNeg) (md (p1 + 2).toNatClampNeg) (md (p1 + 3).toNatClampNeg) (md (p1 + 4).toNatClampNeg)).toInt64)) kp ot th li bl nw wr ru al sp1 en1 ke kb at0) ++ fr) := hD
                        refine lv_iinc (v := nn + 1) (lv' := [(4, .int (nn + 1)), (7, .int (p1 + (zleF (vw 300 md k at1.toNatClampNeg)))), (5, .int 1), (6, .int (vw 300 md k at1.toNatClampNeg)), (0, .ref z0), (1, .int k), (2, .int (300 * k)), (3, .int p1)]) hx hb d_Z_runBytes_144 hl (k := 7) rfl rfl (by decide) rfl (fun ls hl => ?_)
                        refine lv_goto (tgt := 306) hx hb d_Z_runBytes_147 (by decide) ?_
                        refine lv_iload hx hb d_Z_runBytes_306 (lv_at hl 1 rfl) ?_
                        refine lv_istore_n (lv' := [(3, .int (p1 + (zleF (vw 300 md k at1.toNatClampNeg)))), (4, .int (nn + 1)), (7, .int (p1 + (zleF (vw 300 md k at1.toNatClampNeg)))), (5, .int 1), (6, .int (vw 300 md k at1.toNatClampNeg)), (0, .ref z0), (1, .int k), (2, .int (300 * k))]) hx hb d_Z_runBytes_308 rfl hl (by decide) rfl (fun ls hl => ?_)
                        refine lv_goto (tgt := 14) hx hb d_Z_runBytes_309 (by decide) ?_
                        exact ih (p1 + (zleF (vw 300 md k at1.toNatClampNeg))) (nn + 1) 1 rg1 (vp_updL pp1 nn.toNatClampNeg ((zpsF (md p1.toNatClampNeg) (md (p1 + 1).toNatClampNeg) (md (p1 + 2).toNatClampNeg) (md (p1 + 3).toNatClampNeg) (md (p1 + 4).toNatClampNeg)).toInt64)) sp1 en1 (at1 + zleF (vw 300 md k at1.toNatClampNeg)) (kk + 1) _ _ ls (Or.inl ⟨c_18, (by rw [hp, Int32.add_assoc]), (fun z => absurd z (by decide)), (by rw [hcv16 md hp c_106]; exact byC_16 hY hR hB (ne2000 hB.2.2.2.2.1 c_52) c_106)⟩) hP hD hS (lv_sub hl [5, 6, 7, 0, 1, 3] rfl)
                      · exact absurd c_118 c_93
              · refine lv_iload hx hb d_Z_runBytes_67 (lv_at hl 0 rfl) ?_
                refine lv_bipush (v := 9) hx hb d_Z_runBytes_69 (by decide) ?_
                refine lv_icmp_ne (tgt := 78) hx hb d_Z_runBytes_71 (by decide) (fun c_71 => ?_) (fun c_71 => ?_)
                · refine lv_iconst (v := 0) hx hb d_Z_runBytes_78 (by decide) ?_
                  refine lv_istore (lv' := [(5, .int 0), (6, .int (vw 300 md k at1.toNatClampNeg)), (0, .ref z0), (1, .int k), (2, .int (300 * k)), (3, .int p1), (4, .int nn)]) hx hb d_Z_runBytes_79 hl (by decide) rfl (fun ls hl => ?_)
                  refine lv_iload_n hx hb d_Z_runBytes_81 rfl (lv_at hl 5 rfl) ?_
                  refine lv_iload hx hb d_Z_runBytes_82 (lv_at hl 1 rfl) ?_
                  refine goRi (va_runS (As := [.int (vw 300 md k at1.toNatClampNeg)]) (rest := [.int p1]) ⟨hx, hb, hml, hown, hts⟩ (c_Z_lengthOf l D cI cL cO (vw 300 md k at1.toNatClampNeg)) (cwS 1 hts (gBIG (m3 k_ml_Z_102 k_st_Z_lengthOf k_ini_Z) k_co_Z_lengthOf) rfl rfl rfl (by decide +kernel) ⟨Nat.le_of_ble_eq_true rfl, Nat.le_of_ble_eq_true rfl⟩) ⟨PR.bl, PR.pre P_nil hK⟩ rfl rfl hl.1 rfl (lv_room (Nat.le_of_ble_eq_true rfl)) d_Z_runBytes_84 ⟨Nat.le_of_ble_eq_true rfl, Nat.le_of_ble_eq_true rfl⟩) ?_
                  refine lv_iadd hx hb d_Z_runBytes_87 ?_
                  refine lv_istore (lv' := [(7, .int (p1 + (zleF (vw 300 md k at1.toNatClampNeg)))), (5, .int 0), (6, .int (vw 300 md k at1.toNatClampNeg)), (0, .ref z0), (1, .int k), (2, .int (300 * k)), (3, .int p1), (4, .int nn)]) hx hb d_Z_runBytes_88 hl (by decide) rfl (fun ls hl => ?_)
                  refine lv_iload hx hb d_Z_runBytes_90 (lv_at hl 2 rfl) ?_
                  refine lv_iconst (v := 1) hx hb d_Z_runBytes_92 (by decide) ?_
                  refine lv_icmp_eq (tgt := 109) hx hb d_Z_runBytes_93 (by decide) (fun c_93 => ?_) (fun c_93 => ?_)
                  · refine lv_aload_n hx hb d_Z_runBytes_109 rfl (lv_at hl 3 rfl) ?_
                    refine va_get (ci := 5) (v := .ref y12) (C := R_Z) (T := T_Z) (N := 26) hx hb ht in_Z hown hK.1 hP 0 rfl rfl 18 (by decide) (ht _ k_fl_Z_44) (fun _ h9 => h9) rfl d_Z_runBytes_110 ?_
                    refine lv_iload hx hb d_Z_runBytes_113 (lv_at hl 7 rfl) ?_
                    refine lv_iload hx hb d_Z_runBytes_115 (lv_at hl 2 rfl) ?_
                    refine lv_iconst (v := 1) hx hb d_Z_runBytes_117 (by decide) ?_
                    refine lv_icmp_ne (tgt := 137) hx hb d_Z_runBytes_118 (by decide) (fun c_118 => ?_) (fun c_118 => ?_)
                    · exact absurd c_93 c_118
                    · refine lv_aload_n hx hb d_Z_runBytes_121 rfl (lv_at hl 3 rfl) ?_
                      refine va_get (ci := 5) (v := .ref y11) (C := R_Z) (T := T_Z) (N := 26) hx hb ht in_Z hown hK.1 hP 0 rfl rfl 17 (by decide) (ht _ k_fl_Z_40) (fun _ h9 => h9) rfl d_Z_runBytes_122 ?_
                      refine lv_aload_n hx hb d_Z_runBytes_125 rfl (lv_at hl 3 rfl) ?_
                      refine va_get (ci := 5) (v := .ref y8) (C := R_Z) (T := T_Z) (N := 26) hx hb ht in_Z hown hK.1 hP 0 rfl rfl 14 (by decide) (ht _ k_fl_Z_31) (fun _ h9 => h9) rfl d_Z_runBytes_126 ?_
                      refine lv_iload_n hx hb d_Z_runBytes_129 rfl (lv_at hl 6 rfl) ?_
                      refine lv_iconst (v := 1) hx hb d_Z_runBytes_130 (by decide) ?_
                      refine lv_iadd hx hb d_Z_runBytes_131 ?_
                      refine va_iald hx hb hK.1 hP 8 0 rfl rfl (vwj (f := md) hk hp (j := 1) (m := 1) (by decide) (by decide) ha0 (by have := (op_r hY hR hB (Or.inl c_93)).1; omega)).2 d_Z_runBytes_132 ?_
                      rw [show md (p1 + 1).toNatClampNeg = vw 300 md k (at1 + 1).toNatClampNeg from (vwj (f := md) hk hp (j := 1) (m := 1) (by decide) (by decide) ha0 (by have := (op_r hY hR hB (Or.inl c_93)).1; omega)).1]
                      refine va_lald hx hb hK.1 hP 11 1 rfl rfl (in4 (op_r hY hR hB (Or.inl c_93)).2.2) d_Z_runBytes_133 ?_
                      refine lv_goto (tgt := 143) hx hb d_Z_runBytes_134 (by decide) ?_
                      refine va_last hx hb hK.1 hP hD hS 12 1 rfl rfl (in8 hg0 hg4) d_Z_runBytes_143 (fun H locs hP hD hS => ?_)
                      have hP : va_P D vwCl ((wZ cI cL z0 y1 y2 y3 y4 y5 y6 y7 y8 y9 y10 y11 y12 y13 y14 mn oo oa ob ss gg zz md sd da rg1 (vp_updL pp1 nn.toNatClampNeg (rg1 (vw 300 md k (at1 + 1).toNatClampNeg).toNatClampNeg)) kp ot th li bl nw wr ru al sp1 en1 ke kb at0) ++ fr) H := hP
                      have hD : va_D A ((wZ cI cL z0 y1 y2 y3 y4 y5 y6 y7 y8 y9 y10 y11 y12 y13 y14 mn oo oa ob ss gg zz md sd da rg1 (vp_updL pp1 nn.toNatClampNeg (rg1 (vw 300 md k (at1 + 1).toNatClampNeg).toNatClampNeg)) kp ot th li bl nw wr ru al sp1 en1 ke kb at0) ++ fr) := hD
                      refine lv_iinc (v := nn + 1) (lv' := [(4, .int (nn + 1)), (7, .int (p1 + (zleF (vw 300 md k at1.toNatClampNeg)))), (5, .int 0), (6, .int (vw 300 md k at1.toNatClampNeg)), (0, .ref z0), (1, .int k), (2, .int (300 * k)), (3, .int p1)]) hx hb d_Z_runBytes_144 hl (k := 7) rfl rfl (by decide) rfl (fun ls hl => ?_)
                      refine lv_goto (tgt := 306) hx hb d_Z_runBytes_147 (by decide) ?_
                      refine lv_iload hx hb d_Z_runBytes_306 (lv_at hl 1 rfl) ?_
                      refine lv_istore_n (lv' := [(3, .int (p1 + (zleF (vw 300 md k at1.toNatClampNeg)))), (4, .int (nn + 1)), (7, .int (p1 + (zleF (vw 300 md k at1.toNatClampNeg)))), (5, .int 0), (6, .int (vw 300 md k at1.toNatClampNeg)), (0, .ref z0), (1, .int k), (2, .int (300 * k))]) hx hb d_Z_runBytes_308 rfl hl (by decide) rfl (fun ls hl => ?_)
                      refine lv_goto (tgt := 14) hx hb d_Z_runBytes_309 (by decide) ?_
                      exact ih (p1 + (zleF (vw 300 md k at1.toNatClampNeg))) (nn + 1) 0 rg1 (vp_updL pp1 nn.toNatClampNeg (rg1 (vw 300 md k (at1 + 1).toNatClampNeg).toNatClampNeg)) sp1 en1 (at1 + zleF (vw 300 md k at1.toNatClampNeg)) (kk + 1) _ _ ls (Or.inl ⟨c_18, (by rw [hp, Int32.add_assoc]), (fun _ => (ne2000 hB.2.2.2.2.1 c_52)), byC_1 hY hR hB (ne2000 hB.2.2.2.2.1 c_52) c_93⟩) hP hD hS (lv_sub hl [5, 6, 7, 0, 1, 3] rfl)
                  · refine lv_iload hx hb d_Z_runBytes_96 (lv_at hl 2 rfl) ?_
                    refine lv_iconst (v := 3) hx hb d_Z_runBytes_98 (by decide) ?_
                    refine lv_icmp_eq (tgt := 109) hx hb d_Z_runBytes_99 (by decide) (fun c_99 => ?_) (fun c_99 => ?_)
                    · refine lv_aload_n hx hb d_Z_runBytes_109 rfl (lv_at hl 3 rfl) ?_
                      refine va_get (ci := 5) (v := .ref y12) (C := R_Z) (T := T_Z) (N := 26) hx hb ht in_Z hown hK.1 hP 0 rfl rfl 18 (by decide) (ht _ k_fl_Z_44) (fun _ h9 => h9) rfl d_Z_runBytes_110 ?_
                      refine lv_iload hx hb d_Z_runBytes_113 (lv_at hl 7 rfl) ?_
                      refine lv_iload hx hb d_Z_runBytes_115 (lv_at hl 2 rfl) ?_
                      refine lv_iconst (v := 1) hx hb d_Z_runBytes_117 (by decide) ?_
                      refine lv_icmp_ne (tgt := 137) hx hb d_Z_runBytes_118 (by decide) (fun c_118 => ?_) (fun c_118 => ?_)
                      · refine lv_aload_n hx hb d_Z_runBytes_137 rfl (lv_at hl 3 rfl) ?_
                        refine lv_iload_n hx hb d_Z_runBytes_138 rfl (lv_at hl 6 rfl) ?_
                        refine goRi (va_runV (As := [.int p1]) (rest := [.int nn, .ref y12]) ⟨hx, hb, hml, hown, hts⟩ (c_Z_pushed l D cI cL cO z0 y1 y2 y3 y4 y5 y6 y7 y8 y9 y10 y11 y12 y13 y14 mn oo oa ob ss gg zz md sd da rg1 pp1 kp ot th li bl nw wr ru al sp1 en1 ke kb at0 p1 (by rw [hp]; exact in300 hk ⟨ha0, by omega⟩) (by have hl := hlen; rw [c_99, show (zleF 3).toInt = 5 by decide] at hl; exact (vwj (f := md) hk hp (j := 1) (m := 1) (by decide) (by decide) ha0 (by omega)).2) (fun _ => by have hl := hlen; rw [c_99, show (zleF 3).toInt = 5 by decide] at hl; exact ⟨(vwj (f := md) hk hp (j := 2) (m := 2) (by decide) (by decide) ha0 (by omega)).2, (vwj (f := md) hk hp (j := 3) (m := 3) (by decide) (by decide) ha0 (by omega)).2, (vwj (f := md) hk hp (j := 4) (m := 4) (by decide) (by decide) ha0 (by omega)).2⟩)) (cwV 1 hts (gBIG (m4 k_ml_Z_134 k_im_Z_pushed k_sel_Z_pushed k_ini_Z) k_co_Z_pushed) rfl rfl rfl (by decide +kernel) ⟨Nat.le_of_ble_eq_true rfl, Nat.le_of_ble_eq_true rfl⟩) ⟨PR.bl, va_recv hK.1 ((P_app.mp hP).1) (ci := 5) (q0 := 0) rfl rfl, PR.pre ((P_app.mp hP).1) hK⟩ rfl rfl hl.1 rfl (lv_room (Nat.le_of_ble_eq_true rfl)) d_Z_runBytes_139 ⟨Nat.le_of_ble_eq_true rfl, Nat.le_of_ble_eq_true rfl⟩) ?_
                        refine lv_i2l (v := (zpsF (md p1.toNatClampNeg) (md (p1 + 1).toNatClampNeg) (md (p1 + 2).toNatClampNeg) (md (p1 + 3).toNatClampNeg) (md (p1 + 4).toNatClampNeg)).toInt64) hx hb d_Z_runBytes_142 rfl ?_
                        refine va_last hx hb hK.1 hP hD hS 12 1 rfl rfl (in8 hg0 hg4) d_Z_runBytes_143 (fun H locs hP hD hS => ?_)
                        have hP : va_P D vwCl ((wZ cI cL z0 y1 y2 y3 y4 y5 y6 y7 y8 y9 y10 y11 y12 y13 y14 mn oo oa ob ss gg zz md sd da rg1 (vp_updL pp1 nn.toNatClampNeg ((zpsF (md p1.toNatClampNeg) (md (p1 + 1).toNatClampNeg) (md (p1 + 2).toNatClampNeg) (md (p1 + 3).toNatClampNeg) (md (p1 + 4).toNatClampNeg)).toInt64)) kp ot th li bl nw wr ru al sp1 en1 ke kb at0) ++ fr) H := hP
                        have hD : va_D A ((wZ cI cL z0 y1 y2 y3 y4 y5 y6 y7 y8 y9 y10 y11 y12 y13 y14 mn oo oa ob ss gg zz md sd da rg1 (vp_updL pp1 nn.toNatClampNeg ((zpsF (md p1.toNatClampNeg) (md (p1 + 1).toNatClampNeg) (md (p1 + 2).toNatClampNeg) (md (p1 + 3).toNatClampNeg) (md (p1 + 4).toNatClampNeg)).toInt64)) kp ot th li bl nw wr ru al sp1 en1 ke kb at0) ++ fr) := hD
                        refine lv_iinc (v := nn + 1) (lv' := [(4, .int (nn + 1)), (7, .int (p1 + (zleF (vw 300 md k at1.toNatClampNeg)))), (5, .int 0), (6, .int (vw 300 md k at1.toNatClampNeg)), (0, .ref z0), (1, .int k), (2, .int (300 * k)), (3, .int p1)]) hx hb d_Z_runBytes_144 hl (k := 7) rfl rfl (by decide) rfl (fun ls hl => ?_)
                        refine lv_goto (tgt := 306) hx hb d_Z_runBytes_147 (by decide) ?_
                        refine lv_iload hx hb d_Z_runBytes_306 (lv_at hl 1 rfl) ?_
                        refine lv_istore_n (lv' := [(3, .int (p1 + (zleF (vw 300 md k at1.toNatClampNeg)))), (4, .int (nn + 1)), (7, .int (p1 + (zleF (vw 300 md k at1.toNatClampNeg)))), (5, .int 0), (6, .int (vw 300 md k at1.toNatClampNeg)), (0, .ref z0), (1, .int k), (2, .int (300 * k))]) hx hb d_Z_runBytes_308 rfl hl (by decide) rfl (fun ls hl => ?_)
                        refine lv_goto (tgt := 14) hx hb d_Z_runBytes_309 (by decide) ?_
                        exact ih (p1 + (zleF (vw 300 md k at1.toNatClampNeg))) (nn + 1) 0 rg1 (vp_updL pp1 nn.toNatClampNeg ((zpsF (md p1.toNatClampNeg) (md (p1 + 1).toNatClampNeg) (md (p1 + 2).toNatClampNeg) (md (p1 + 3).toNatClampNeg) (md (p1 + 4).toNatClampNeg)).toInt64)) sp1 en1 (at1 + zleF (vw 300 md k at1.toNatClampNeg)) (kk + 1) _ _ ls (Or.inl ⟨c_18, (by rw [hp, Int32.add_assoc]), (fun _ => (ne2000 hB.2.2.2.2.1 c_52)), (by rw [hcv3 md hp c_99]; exact byC_3 hY hR hB (ne2000 hB.2.2.2.2.1 c_52) c_99)⟩) hP hD hS (lv_sub hl [5, 6, 7, 0, 1, 3] rfl)
                      · exact absurd c_118 c_93
                    · refine lv_iload hx hb d_Z_runBytes_102 (lv_at hl 2 rfl) ?_
                      refine lv_bipush (v := 16) hx hb d_Z_runBytes_104 (by decide) ?_
                      refine lv_icmp_ne (tgt := 150) hx hb d_Z_runBytes_106 (by decide) (fun c_106 => ?_) (fun c_106 => ?_)
                      · refine lv_iload hx hb d_Z_runBytes_150 (lv_at hl 1 rfl) ?_
                        refine lv_if_eq (tgt := 242) hx hb d_Z_runBytes_152 (by decide) (fun c_152 => ?_) (fun c_152 => ?_)
                        · refine lv_iload hx hb d_Z_runBytes_242 (lv_at hl 2 rfl) ?_
                          refine lv_bipush (v := 7) hx hb d_Z_runBytes_244 (by decide) ?_
                          refine lv_icmp_ne (tgt := 271) hx hb d_Z_runBytes_246 (by decide) (fun c_246 => ?_) (fun c_246 => ?_)
                          · refine lv_iinc (v := nn + (-1)) (lv' := [(4, .int (nn + (-1))), (7, .int (p1 + (zleF (vw 300 md k at1.toNatClampNeg)))), (5, .int 0), (6, .int (vw 300 md k at1.toNatClampNeg)), (0, .ref z0), (1, .int k), (2, .int (300 * k)), (3, .int p1)]) hx hb d_Z_runBytes_271 hl (k := 7) rfl rfl (by decide) rfl (fun ls hl => ?_)
                            refine lv_aload_n hx hb d_Z_runBytes_274 rfl (lv_at hl 4 rfl) ?_
                            refine va_get (ci := 5) (v := .ref y12) (C := R_Z) (T := T_Z) (N := 26) hx hb ht in_Z hown hK.1 hP 0 rfl rfl 18 (by decide) (ht _ k_fl_Z_44) (fun _ h9 => h9) rfl d_Z_runBytes_275 ?_
                            refine lv_iload hx hb d_Z_runBytes_278 (lv_at hl 0 rfl) ?_
                            refine lv_iconst (v := 1) hx hb d_Z_runBytes_280 (by decide) ?_
                            refine lv_isub hx hb d_Z_runBytes_281 ?_
                            refine lv_iload hx hb d_Z_runBytes_282 (lv_at hl 3 rfl) ?_
                            refine lv_iconst (v := 3) hx hb d_Z_runBytes_284 (by decide) ?_
                            refine lv_isub hx hb d_Z_runBytes_285 ?_
                            refine lv_aload_n hx hb d_Z_runBytes_286 rfl (lv_at hl 4 rfl) ?_
                            refine va_get (ci := 5) (v := .ref y12) (C := R_Z) (T := T_Z) (N := 26) hx hb ht in_Z hown hK.1 hP 0 rfl rfl 18 (by decide) (ht _ k_fl_Z_44) (fun _ h9 => h9) rfl d_Z_runBytes_287 ?_
                            refine lv_iload hx hb d_Z_runBytes_290 (lv_at hl 0 rfl) ?_
                            refine lv_iconst (v := 1) hx hb d_Z_runBytes_292 (by decide) ?_
                            refine lv_isub hx hb d_Z_runBytes_293 ?_
                            refine va_lald hx hb hK.1 hP 12 1 rfl rfl (in8mm (by have := ta_ge hRa hge; have h2 : (ztaF (vw 300 md k at1.toNatClampNeg)).toInt = 2 := (by rcases (ar_c hRa.1 c_29 c_64 c_71 c_93 c_99 c_106) with c | c | c | c | c <;> rw [c] <;> decide); omega) hg4) d_Z_runBytes_294 ?_
                            refine lv_aload_n hx hb d_Z_runBytes_295 rfl (lv_at hl 4 rfl) ?_
                            refine va_get (ci := 5) (v := .ref y12) (C := R_Z) (T := T_Z) (N := 26) hx hb ht in_Z hown hK.1 hP 0 rfl rfl 18 (by decide) (ht _ k_fl_Z_44) (fun _ h9 => h9) rfl d_Z_runBytes_296 ?_
                            refine lv_iload hx hb d_Z_runBytes_299 (lv_at hl 0 rfl) ?_
                            refine va_lald hx hb hK.1 hP 12 1 rfl rfl (in8m (Int.le_trans (by decide) (show (2 : Int) ≤ nn.toInt from (by have := ta_ge hRa hge; have h2 : (ztaF (vw 300 md k at1.toNatClampNeg)).toInt = 2 := (by rcases (ar_c hRa.1 c_29 c_64 c_71 c_93 c_99 c_106) with c | c | c | c | c <;> rw [c] <;> decide); omega))) hg4).1 d_Z_runBytes_301 ?_
                            refine goRl (va_runS (As := [.int ((vw 300 md k at1.toNatClampNeg) - 3), .long (pp1 ((nn + (-1)) - 1).toNatClampNeg), .long (pp1 (nn + (-1)).toNatClampNeg)]) (rest := [.int ((nn + (-1)) - 1), .ref y12]) ⟨hx, hb, hml, hown, hts⟩ (c_Z_result l D cI cL cO ((vw 300 md k at1.toNatClampNeg) - 3) (pp1 ((nn + (-1)) - 1).toNatClampNeg) (pp1 (nn + (-1)).toNatClampNeg) (fun h => absurd (c37 h) c_246)) (cwS 3 hts (gBIG (m3 k_ml_Z_130 k_st_Z_result k_ini_Z) k_co_Z_result) rfl rfl rfl (by decide +kernel) ⟨Nat.le_of_ble_eq_true rfl, Nat.le_of_ble_eq_true rfl⟩) ⟨PR.bl, PR.pre P_nil hK⟩ rfl rfl hl.1 rfl (lv_room (Nat.le_of_ble_eq_true rfl)) d_Z_runBytes_302 ⟨Nat.le_of_ble_eq_true rfl, Nat.le_of_ble_eq_true rfl⟩) ?_
                            refine va_last hx hb hK.1 hP hD hS 12 1 rfl rfl (in8mm (by have := ta_ge hRa hge; have h2 : (ztaF (vw 300 md k at1.toNatClampNeg)).toInt = 2 := (by rcases (ar_c hRa.1 c_29 c_64 c_71 c_93 c_99 c_106) with c | c | c | c | c <;> rw [c] <;> decide); omega) hg4) d_Z_runBytes_305 (fun H locs hP hD hS => ?_)
                            have hP : va_P D vwCl ((wZ cI cL z0 y1 y2 y3 y4 y5 y6 y7 y8 y9 y10 y11 y12 y13 y14 mn oo oa ob ss gg zz md sd da rg1 (vp_updL pp1 ((nn + (-1)) - 1).toNatClampNeg (zreF ((vw 300 md k at1.toNatClampNeg) - 3) (pp1 ((nn + (-1)) - 1).toNatClampNeg) (pp1 (nn + (-1)).toNatClampNeg))) kp ot th li bl nw wr ru al sp1 en1 ke kb at0) ++ fr) H := hP
                            have hD : va_D A ((wZ cI cL z0 y1 y2 y3 y4 y5 y6 y7 y8 y9 y10 y11 y12 y13 y14 mn oo oa ob ss gg zz md sd da rg1 (vp_updL pp1 ((nn + (-1)) - 1).toNatClampNeg (zreF ((vw 300 md k at1.toNatClampNeg) - 3) (pp1 ((nn + (-1)) - 1).toNatClampNeg) (pp1 (nn + (-1)).toNatClampNeg))) kp ot th li bl nw wr ru al sp1 en1 ke kb at0) ++ fr) := hD
                            refine lv_iload hx hb d_Z_runBytes_306 (lv_at hl 1 rfl) ?_
                            refine lv_istore_n (lv' := [(3, .int (p1 + (zleF (vw 300 md k at1.toNatClampNeg)))), (4, .int (nn + (-1))), (7, .int (p1 + (zleF (vw 300 md k at1.toNatClampNeg)))), (5, .int 0), (6, .int (vw 300 md k at1.toNatClampNeg)), (0, .ref z0), (1, .int k), (2, .int (300 * k))]) hx hb d_Z_runBytes_308 rfl hl (by decide) rfl (fun ls hl => ?_)
                            refine lv_goto (tgt := 14) hx hb d_Z_runBytes_309 (by decide) ?_
                            exact ih (p1 + (zleF (vw 300 md k at1.toNatClampNeg))) (nn + (-1)) 0 rg1 (vp_updL pp1 ((nn + (-1)) - 1).toNatClampNeg (zreF ((vw 300 md k at1.toNatClampNeg) - 3) (pp1 ((nn + (-1)) - 1).toNatClampNeg) (pp1 (nn + (-1)).toNatClampNeg))) sp1 en1 (at1 + zleF (vw 300 md k at1.toNatClampNeg)) (kk + 1) _ _ ls (Or.inl ⟨c_18, (by rw [hp, Int32.add_assoc]), (fun _ => (ne2000 hB.2.2.2.2.1 c_52)), (byC_a hR hB (ne2000 hB.2.2.2.2.1 c_52) (ar_c hRa.1 c_29 c_64 c_71 c_93 c_99 c_106) (fun z => absurd z c_246)).1⟩) hP hD hS (lv_sub hl [5, 6, 7, 0, 1, 3] rfl)
                          · refine lv_aload_n hx hb d_Z_runBytes_249 rfl (lv_at hl 3 rfl) ?_
                            refine va_get (ci := 5) (v := .ref y12) (C := R_Z) (T := T_Z) (N := 26) hx hb ht in_Z hown hK.1 hP 0 rfl rfl 18 (by decide) (ht _ k_fl_Z_44) (fun _ h9 => h9) rfl d_Z_runBytes_250 ?_
                            refine lv_iload hx hb d_Z_runBytes_253 (lv_at hl 7 rfl) ?_
                            refine lv_iconst (v := 1) hx hb d_Z_runBytes_255 (by decide) ?_
                            refine lv_isub hx hb d_Z_runBytes_256 ?_
                            refine va_lald hx hb hK.1 hP 12 1 rfl rfl (in8m (by have := ta_ge hRa hge; rw [c_246, show (ztaF 7).toInt = 2 by decide] at this; omega) hg4).2 d_Z_runBytes_257 ?_
                            refine lv_lconst (v := 0) hx hb d_Z_runBytes_258 (by decide) ?_
                            refine W.lcmp hx hb d_Z_runBytes_259 ?_
                            refine lv_if_ne (tgt := 271) hx hb d_Z_runBytes_260 (by decide) (fun c_260 => ?_) (fun c_260 => ?_)
                            · refine lv_iinc (v := nn + (-1)) (lv' := [(4, .int (nn + (-1))), (7, .int (p1 + (zleF (vw 300 md k at1.toNatClampNeg)))), (5, .int 0), (6, .int (vw 300 md k at1.toNatClampNeg)), (0, .ref z0), (1, .int k), (2, .int (300 * k)), (3, .int p1)]) hx hb d_Z_runBytes_271 hl (k := 7) rfl rfl (by decide) rfl (fun ls hl => ?_)
                              refine lv_aload_n hx hb d_Z_runBytes_274 rfl (lv_at hl 4 rfl) ?_
                              refine va_get (ci := 5) (v := .ref y12) (C := R_Z) (T := T_Z) (N := 26) hx hb ht in_Z hown hK.1 hP 0 rfl rfl 18 (by decide) (ht _ k_fl_Z_44) (fun _ h9 => h9) rfl d_Z_runBytes_275 ?_
                              refine lv_iload hx hb d_Z_runBytes_278 (lv_at hl 0 rfl) ?_
                              refine lv_iconst (v := 1) hx hb d_Z_runBytes_280 (by decide) ?_
                              refine lv_isub hx hb d_Z_runBytes_281 ?_
                              refine lv_iload hx hb d_Z_runBytes_282 (lv_at hl 3 rfl) ?_
                              refine lv_iconst (v := 3) hx hb d_Z_runBytes_284 (by decide) ?_
                              refine lv_isub hx hb d_Z_runBytes_285 ?_
                              refine lv_aload_n hx hb d_Z_runBytes_286 rfl (lv_at hl 4 rfl) ?_
                              refine va_get (ci := 5) (v := .ref y12) (C := R_Z) (T := T_Z) (N := 26) hx hb ht in_Z hown hK.1 hP 0 rfl rfl 18 (by decide) (ht _ k_fl_Z_44) (fun _ h9 => h9) rfl d_Z_runBytes_287 ?_
                              refine lv_iload hx hb d_Z_runBytes_290 (lv_at hl 0 rfl) ?_
                              refine lv_iconst (v := 1) hx hb d_Z_runBytes_292 (by decide) ?_
                              refine lv_isub hx hb d_Z_runBytes_293 ?_
                              refine va_lald hx hb hK.1 hP 12 1 rfl rfl (in8mm (by have := ta_ge hRa hge; have h2 : (ztaF (vw 300 md k at1.toNatClampNeg)).toInt = 2 := (by rcases (ar_c hRa.1 c_29 c_64 c_71 c_93 c_99 c_106) with c | c | c | c | c <;> rw [c] <;> decide); omega) hg4) d_Z_runBytes_294 ?_
                              refine lv_aload_n hx hb d_Z_runBytes_295 rfl (lv_at hl 4 rfl) ?_
                              refine va_get (ci := 5) (v := .ref y12) (C := R_Z) (T := T_Z) (N := 26) hx hb ht in_Z hown hK.1 hP 0 rfl rfl 18 (by decide) (ht _ k_fl_Z_44) (fun _ h9 => h9) rfl d_Z_runBytes_296 ?_
                              refine lv_iload hx hb d_Z_runBytes_299 (lv_at hl 0 rfl) ?_
                              refine va_lald hx hb hK.1 hP 12 1 rfl rfl (in8m (Int.le_trans (by decide) (show (2 : Int) ≤ nn.toInt from (by have := ta_ge hRa hge; have h2 : (ztaF (vw 300 md k at1.toNatClampNeg)).toInt = 2 := (by rcases (ar_c hRa.1 c_29 c_64 c_71 c_93 c_99 c_106) with c | c | c | c | c <;> rw [c] <;> decide); omega))) hg4).1 d_Z_runBytes_301 ?_
                              refine goRl (va_runS (As := [.int ((vw 300 md k at1.toNatClampNeg) - 3), .long (pp1 ((nn + (-1)) - 1).toNatClampNeg), .long (pp1 (nn + (-1)).toNatClampNeg)]) (rest := [.int ((nn + (-1)) - 1), .ref y12]) ⟨hx, hb, hml, hown, hts⟩ (c_Z_result l D cI cL cO ((vw 300 md k at1.toNatClampNeg) - 3) (pp1 ((nn + (-1)) - 1).toNatClampNeg) (pp1 (nn + (-1)).toNatClampNeg) (fun _ y => c_260 (by rw [← m1e]; exact (lg_cmp_eq _ _).mpr y))) (cwS 3 hts (gBIG (m3 k_ml_Z_130 k_st_Z_result k_ini_Z) k_co_Z_result) rfl rfl rfl (by decide +kernel) ⟨Nat.le_of_ble_eq_true rfl, Nat.le_of_ble_eq_true rfl⟩) ⟨PR.bl, PR.pre P_nil hK⟩ rfl rfl hl.1 rfl (lv_room (Nat.le_of_ble_eq_true rfl)) d_Z_runBytes_302 ⟨Nat.le_of_ble_eq_true rfl, Nat.le_of_ble_eq_true rfl⟩) ?_
                              refine va_last hx hb hK.1 hP hD hS 12 1 rfl rfl (in8mm (by have := ta_ge hRa hge; have h2 : (ztaF (vw 300 md k at1.toNatClampNeg)).toInt = 2 := (by rcases (ar_c hRa.1 c_29 c_64 c_71 c_93 c_99 c_106) with c | c | c | c | c <;> rw [c] <;> decide); omega) hg4) d_Z_runBytes_305 (fun H locs hP hD hS => ?_)
                              have hP : va_P D vwCl ((wZ cI cL z0 y1 y2 y3 y4 y5 y6 y7 y8 y9 y10 y11 y12 y13 y14 mn oo oa ob ss gg zz md sd da rg1 (vp_updL pp1 ((nn + (-1)) - 1).toNatClampNeg (zreF ((vw 300 md k at1.toNatClampNeg) - 3) (pp1 ((nn + (-1)) - 1).toNatClampNeg) (pp1 (nn + (-1)).toNatClampNeg))) kp ot th li bl nw wr ru al sp1 en1 ke kb at0) ++ fr) H := hP
                              have hD : va_D A ((wZ cI cL z0 y1 y2 y3 y4 y5 y6 y7 y8 y9 y10 y11 y12 y13 y14 mn oo oa ob ss gg zz md sd da rg1 (vp_updL pp1 ((nn + (-1)) - 1).toNatClampNeg (zreF ((vw 300 md k at1.toNatClampNeg) - 3) (pp1 ((nn + (-1)) - 1).toNatClampNeg) (pp1 (nn + (-1)).toNatClampNeg))) kp ot th li bl nw wr ru al sp1 en1 ke kb at0) ++ fr) := hD
                              refine lv_iload hx hb d_Z_runBytes_306 (lv_at hl 1 rfl) ?_
                              refine lv_istore_n (lv' := [(3, .int (p1 + (zleF (vw 300 md k at1.toNatClampNeg)))), (4, .int (nn + (-1))), (7, .int (p1 + (zleF (vw 300 md k at1.toNatClampNeg)))), (5, .int 0), (6, .int (vw 300 md k at1.toNatClampNeg)), (0, .ref z0), (1, .int k), (2, .int (300 * k))]) hx hb d_Z_runBytes_308 rfl hl (by decide) rfl (fun ls hl => ?_)
                              refine lv_goto (tgt := 14) hx hb d_Z_runBytes_309 (by decide) ?_
                              exact ih (p1 + (zleF (vw 300 md k at1.toNatClampNeg))) (nn + (-1)) 0 rg1 (vp_updL pp1 ((nn + (-1)) - 1).toNatClampNeg (zreF ((vw 300 md k at1.toNatClampNeg) - 3) (pp1 ((nn + (-1)) - 1).toNatClampNeg) (pp1 (nn + (-1)).toNatClampNeg))) sp1 en1 (at1 + zleF (vw 300 md k at1.toNatClampNeg)) (kk + 1) _ _ ls (Or.inl ⟨c_18, (by rw [hp, Int32.add_assoc]), (fun _ => (ne2000 hB.2.2.2.2.1 c_52)), (byC_a hR hB (ne2000 hB.2.2.2.2.1 c_52) (ar_c hRa.1 c_29 c_64 c_71 c_93 c_99 c_106) (fun _ => c_260)).1⟩) hP hD hS (lv_sub hl [5, 6, 7, 0, 1, 3] rfl)
                            · refine lv_aload_n hx hb d_Z_runBytes_263 rfl (lv_at hl 3 rfl) ?_
                              refine lv_iconst (v := 1) hx hb d_Z_runBytes_264 (by decide) ?_
                              refine va_put (ci := 5) (v := .int 1) (ty := .int) (C := R_Z) (T := T_Z) (N := 26) hx hb ht in_Z t_Z t_Z_ok n_Z hown hK.1 hP hD hS 0 rfl rfl 20 (by decide) (ht _ k_fl_Z_127) (fun _ h9 => h9) rfl (by decide +kernel) rfl rfl (Nat.le_of_ble_eq_true rfl) d_Z_runBytes_265 (fun H locs hP hD hS => ?_)
                              have hP : va_P D vwCl ((wZ cI cL z0 y1 y2 y3 y4 y5 y6 y7 y8 y9 y10 y11 y12 y13 y14 mn oo oa ob ss gg zz md sd da rg1 pp1 kp ot th li bl nw wr ru al sp1 1 ke kb at0) ++ fr) H := hP
                              have hD : va_D A ((wZ cI cL z0 y1 y2 y3 y4 y5 y6 y7 y8 y9 y10 y11 y12 y13 y14 mn oo oa ob ss gg zz md sd da rg1 pp1 kp ot th li bl nw wr ru al sp1 1 ke kb at0) ++ fr) := hD
                              refine lv_goto (tgt := 306) hx hb d_Z_runBytes_268 (by decide) ?_
                              refine lv_iload hx hb d_Z_runBytes_306 (lv_at hl 0 rfl) ?_
                              refine lv_istore_n (lv' := [(3, .int (p1 + (zleF (vw 300 md k at1.toNatClampNeg)))), (7, .int (p1 + (zleF (vw 300 md k at1.toNatClampNeg)))), (5, .int 0), (6, .int (vw 300 md k at1.toNatClampNeg)), (0, .ref z0), (1, .int k), (2, .int (300 * k)), (4, .int nn)]) hx hb d_Z_runBytes_308 rfl hl (by decide) rfl (fun ls hl => ?_)
                              refine lv_goto (tgt := 14) hx hb d_Z_runBytes_309 (by decide) ?_
                              exact ih (p1 + (zleF (vw 300 md k at1.toNatClampNeg))) nn 0 rg1 pp1 sp1 1 at1 (kk + 1) _ _ ls (Or.inr ⟨by decide, by have := byI_f hR hB c_246 (ne2000 hB.2.2.2.2.1 c_52) (tz1 (by have := ta_ge hRa hge; rw [c_246, show (ztaF 7).toInt = 2 by decide] at this; omega) c_260); exact ⟨congrArg (·.1) this, congrArg (·.2.2.1) this, congrArg (·.2.2.2) this, byI_1 hR hB⟩⟩) hP hD hS (lv_sub hl [4, 5, 6, 0, 7, 2] rfl)
                        · exact absurd c_152 (by decide)
                      · refine lv_aload_n hx hb d_Z_runBytes_109 rfl (lv_at hl 3 rfl) ?_
                        refine va_get (ci := 5) (v := .ref y12) (C := R_Z) (T := T_Z) (N := 26) hx hb ht in_Z hown hK.1 hP 0 rfl rfl 18 (by decide) (ht _ k_fl_Z_44) (fun _ h9 => h9) rfl d_Z_runBytes_110 ?_
                        refine lv_iload hx hb d_Z_runBytes_113 (lv_at hl 7 rfl) ?_
                        refine lv_iload hx hb d_Z_runBytes_115 (lv_at hl 2 rfl) ?_
                        refine lv_iconst (v := 1) hx hb d_Z_runBytes_117 (by decide) ?_
                        refine lv_icmp_ne (tgt := 137) hx hb d_Z_runBytes_118 (by decide) (fun c_118 => ?_) (fun c_118 => ?_)
                        · refine lv_aload_n hx hb d_Z_runBytes_137 rfl (lv_at hl 3 rfl) ?_
                          refine lv_iload_n hx hb d_Z_runBytes_138 rfl (lv_at hl 6 rfl) ?_
                          refine goRi (va_runV (As := [.int p1]) (rest := [.int nn, .ref y12]) ⟨hx, hb, hml, hown, hts⟩ (c_Z_pushed l D cI cL cO z0 y1 y2 y3 y4 y5 y6 y7 y8 y9 y10 y11 y12 y13 y14 mn oo oa ob ss gg zz md sd da rg1 pp1 kp ot th li bl nw wr ru al sp1 en1 ke kb at0 p1 (by rw [hp]; exact in300 hk ⟨ha0, by omega⟩) (by have hl := hlen; rw [c_106, show (zleF 16).toInt = 2 by decide] at hl; exact (vwj (f := md) hk hp (j := 1) (m := 1) (by decide) (by decide) ha0 (by omega)).2) (fun z => absurd (show md p1.toNatClampNeg = 16 by rw [show md p1.toNatClampNeg = vw 300 md k at1.toNatClampNeg from (by rw [hp]; exact vw300 hk ⟨ha0, by omega⟩)]; exact c_106) z)) (cwV 1 hts (gBIG (m4 k_ml_Z_134 k_im_Z_pushed k_sel_Z_pushed k_ini_Z) k_co_Z_pushed) rfl rfl rfl (by decide +kernel) ⟨Nat.le_of_ble_eq_true rfl, Nat.le_of_ble_eq_true rfl⟩) ⟨PR.bl, va_recv hK.1 ((P_app.mp hP).1) (ci := 5) (q0 := 0) rfl rfl, PR.pre ((P_app.mp hP).1) hK⟩ rfl rfl hl.1 rfl (lv_room (Nat.le_of_ble_eq_true rfl)) d_Z_runBytes_139 ⟨Nat.le_of_ble_eq_true rfl, Nat.le_of_ble_eq_true rfl⟩) ?_
                          refine lv_i2l (v := (zpsF (md p1.toNatClampNeg) (md (p1 + 1).toNatClampNeg) (md (p1 + 2).toNatClampNeg) (md (p1 + 3).toNatClampNeg) (md (p1 + 4).toNatClampNeg)).toInt64) hx hb d_Z_runBytes_142 rfl ?_
                          refine va_last hx hb hK.1 hP hD hS 12 1 rfl rfl (in8 hg0 hg4) d_Z_runBytes_143 (fun H locs hP hD hS => ?_)
                          have hP : va_P D vwCl ((wZ cI cL z0 y1 y2 y3 y4 y5 y6 y7 y8 y9 y10 y11 y12 y13 y14 mn oo oa ob ss gg zz md sd da rg1 (vp_updL pp1 nn.toNatClampNeg ((zpsF (md p1.toNatClampNeg) (md (p1 + 1).toNatClampNeg) (md (p1 + 2).toNatClampNeg) (md (p1 + 3).toNatClampNeg) (md (p1 + 4).toNatClampNeg)).toInt64)) kp ot th li bl nw wr ru al sp1 en1 ke kb at0) ++ fr) H := hP
                          have hD : va_D A ((wZ cI cL z0 y1 y2 y3 y4 y5 y6 y7 y8 y9 y10 y11 y12 y13 y14 mn oo oa ob ss gg zz md sd da rg1 (vp_updL pp1 nn.toNatClampNeg ((zpsF (md p1.toNatClampNeg) (md (p1 + 1).toNatClampNeg) (md (p1 + 2).toNatClampNeg) (md (p1 + 3).toNatClampNeg) (md (p1 + 4).toNatClampNeg)).toInt64)) kp ot th li bl nw wr ru al sp1 en1 ke kb at0) ++ fr) := hD
                          refine lv_iinc (v := nn + 1) (lv' := [(4, .int (nn + 1)), (7, .int (p1 + (zleF (vw 300 md k at1.toNatClampNeg)))), (5, .int 0), (6, .int (vw 300 md k at1.toNatClampNeg)), (0, .ref z0), (1, .int k), (2, .int (300 * k)), (3, .int p1)]) hx hb d_Z_runBytes_144 hl (k := 7) rfl rfl (by decide) rfl (fun ls hl => ?_)
                          refine lv_goto (tgt := 306) hx hb d_Z_runBytes_147 (by decide) ?_
                          refine lv_iload hx hb d_Z_runBytes_306 (lv_at hl 1 rfl) ?_
                          refine lv_istore_n (lv' := [(3, .int (p1 + (zleF (vw 300 md k at1.toNatClampNeg)))), (4, .int (nn + 1)), (7, .int (p1 + (zleF (vw 300 md k at1.toNatClampNeg)))), (5, .int 0), (6, .int (vw 300 md k at1.toNatClampNeg)), (0, .ref z0), (1, .int k), (2, .int (300 * k))]) hx hb d_Z_runBytes_308 rfl hl (by decide) rfl (fun ls hl => ?_)
                          refine lv_goto (tgt := 14) hx hb d_Z_runBytes_309 (by decide) ?_
                          exact ih (p1 + (zleF (vw 300 md k at1.toNatClampNeg))) (nn + 1) 0 rg1 (vp_updL pp1 nn.toNatClampNeg ((zpsF (md p1.toNatClampNeg) (md (p1 + 1).toNatClampNeg) (md (p1 + 2).toNatClampNeg) (md (p1 + 3).toNatClampNeg) (md (p1 + 4).toNatClampNeg)).toInt64)) sp1 en1 (at1 + zleF (vw 300 md k at1.toNatClampNeg)) (kk + 1) _ _ ls (Or.inl ⟨c_18, (by rw [hp, Int32.add_assoc]), (fun _ => (ne2000 hB.2.2.2.2.1 c_52)), (by rw [hcv16 md hp c_106]; exact byC_16 hY hR hB (ne2000 hB.2.2.2.2.1 c_52) c_106)⟩) hP hD hS (lv_sub hl [5, 6, 7, 0, 1, 3] rfl)
                        · exact absurd c_118 c_93
                · refine lv_iconst (v := 1) hx hb d_Z_runBytes_74 (by decide) ?_
                  refine lv_goto (tgt := 79) hx hb d_Z_runBytes_75 (by decide) ?_
                  refine lv_istore (lv' := [(5, .int 1), (6, .int (vw 300 md k at1.toNatClampNeg)), (0, .ref z0), (1, .int k), (2, .int (300 * k)), (3, .int p1), (4, .int nn)]) hx hb d_Z_runBytes_79 hl (by decide) rfl (fun ls hl => ?_)
                  refine lv_iload_n hx hb d_Z_runBytes_81 rfl (lv_at hl 5 rfl) ?_
                  refine lv_iload hx hb d_Z_runBytes_82 (lv_at hl 1 rfl) ?_
                  refine goRi (va_runS (As := [.int (vw 300 md k at1.toNatClampNeg)]) (rest := [.int p1]) ⟨hx, hb, hml, hown, hts⟩ (c_Z_lengthOf l D cI cL cO (vw 300 md k at1.toNatClampNeg)) (cwS 1 hts (gBIG (m3 k_ml_Z_102 k_st_Z_lengthOf k_ini_Z) k_co_Z_lengthOf) rfl rfl rfl (by decide +kernel) ⟨Nat.le_of_ble_eq_true rfl, Nat.le_of_ble_eq_true rfl⟩) ⟨PR.bl, PR.pre P_nil hK⟩ rfl rfl hl.1 rfl (lv_room (Nat.le_of_ble_eq_true rfl)) d_Z_runBytes_84 ⟨Nat.le_of_ble_eq_true rfl, Nat.le_of_ble_eq_true rfl⟩) ?_
                  refine lv_iadd hx hb d_Z_runBytes_87 ?_
                  refine lv_istore (lv' := [(7, .int (p1 + (zleF (vw 300 md k at1.toNatClampNeg)))), (5, .int 1), (6, .int (vw 300 md k at1.toNatClampNeg)), (0, .ref z0), (1, .int k), (2, .int (300 * k)), (3, .int p1), (4, .int nn)]) hx hb d_Z_runBytes_88 hl (by decide) rfl (fun ls hl => ?_)
                  refine lv_iload hx hb d_Z_runBytes_90 (lv_at hl 2 rfl) ?_
                  refine lv_iconst (v := 1) hx hb d_Z_runBytes_92 (by decide) ?_
                  refine lv_icmp_eq (tgt := 109) hx hb d_Z_runBytes_93 (by decide) (fun c_93 => ?_) (fun c_93 => ?_)
                  · refine lv_aload_n hx hb d_Z_runBytes_109 rfl (lv_at hl 3 rfl) ?_
                    refine va_get (ci := 5) (v := .ref y12) (C := R_Z) (T := T_Z) (N := 26) hx hb ht in_Z hown hK.1 hP 0 rfl rfl 18 (by decide) (ht _ k_fl_Z_44) (fun _ h9 => h9) rfl d_Z_runBytes_110 ?_
                    refine lv_iload hx hb d_Z_runBytes_113 (lv_at hl 7 rfl) ?_
                    refine lv_iload hx hb d_Z_runBytes_115 (lv_at hl 2 rfl) ?_
                    refine lv_iconst (v := 1) hx hb d_Z_runBytes_117 (by decide) ?_
                    refine lv_icmp_ne (tgt := 137) hx hb d_Z_runBytes_118 (by decide) (fun c_118 => ?_) (fun c_118 => ?_)
                    · exact absurd c_93 c_118
                    · refine lv_aload_n hx hb d_Z_runBytes_121 rfl (lv_at hl 3 rfl) ?_
                      refine va_get (ci := 5) (v := .ref y11) (C := R_Z) (T := T_Z) (N := 26) hx hb ht in_Z hown hK.1 hP 0 rfl rfl 17 (by decide) (ht _ k_fl_Z_40) (fun _ h9 => h9) rfl d_Z_runBytes_122 ?_
                      refine lv_aload_n hx hb d_Z_runBytes_125 rfl (lv_at hl 3 rfl) ?_
                      refine va_get (ci := 5) (v := .ref y8) (C := R_Z) (T := T_Z) (N := 26) hx hb ht in_Z hown hK.1 hP 0 rfl rfl 14 (by decide) (ht _ k_fl_Z_31) (fun _ h9 => h9) rfl d_Z_runBytes_126 ?_
                      refine lv_iload_n hx hb d_Z_runBytes_129 rfl (lv_at hl 6 rfl) ?_
                      refine lv_iconst (v := 1) hx hb d_Z_runBytes_130 (by decide) ?_
                      refine lv_iadd hx hb d_Z_runBytes_131 ?_
                      refine va_iald hx hb hK.1 hP 8 0 rfl rfl (vwj (f := md) hk hp (j := 1) (m := 1) (by decide) (by decide) ha0 (by have := (op_r hY hR hB (Or.inl c_93)).1; omega)).2 d_Z_runBytes_132 ?_
                      rw [show md (p1 + 1).toNatClampNeg = vw 300 md k (at1 + 1).toNatClampNeg from (vwj (f := md) hk hp (j := 1) (m := 1) (by decide) (by decide) ha0 (by have := (op_r hY hR hB (Or.inl c_93)).1; omega)).1]
                      refine va_lald hx hb hK.1 hP 11 1 rfl rfl (in4 (op_r hY hR hB (Or.inl c_93)).2.2) d_Z_runBytes_133 ?_
                      refine lv_goto (tgt := 143) hx hb d_Z_runBytes_134 (by decide) ?_
                      refine va_last hx hb hK.1 hP hD hS 12 1 rfl rfl (in8 hg0 hg4) d_Z_runBytes_143 (fun H locs hP hD hS => ?_)
                      have hP : va_P D vwCl ((wZ cI cL z0 y1 y2 y3 y4 y5 y6 y7 y8 y9 y10 y11 y12 y13 y14 mn oo oa ob ss gg zz md sd da rg1 (vp_updL pp1 nn.toNatClampNeg (rg1 (vw 300 md k (at1 + 1).toNatClampNeg).toNatClampNeg)) kp ot th li bl nw wr ru al sp1 en1 ke kb at0) ++ fr) H := hP
                      have hD : va_D A ((wZ cI cL z0 y1 y2 y3 y4 y5 y6 y7 y8 y9 y10 y11 y12 y13 y14 mn oo oa ob ss gg zz md sd da rg1 (vp_updL pp1 nn.toNatClampNeg (rg1 (vw 300 md k (at1 + 1).toNatClampNeg).toNatClampNeg)) kp ot th li bl nw wr ru al sp1 en1 ke kb at0) ++ fr) := hD
                      refine lv_iinc (v := nn + 1) (lv' := [(4, .int (nn + 1)), (7, .int (p1 + (zleF (vw 300 md k at1.toNatClampNeg)))), (5, .int 1), (6, .int (vw 300 md k at1.toNatClampNeg)), (0, .ref z0), (1, .int k), (2, .int (300 * k)), (3, .int p1)]) hx hb d_Z_runBytes_144 hl (k := 7) rfl rfl (by decide) rfl (fun ls hl => ?_)
                      refine lv_goto (tgt := 306) hx hb d_Z_runBytes_147 (by decide) ?_
                      refine lv_iload hx hb d_Z_runBytes_306 (lv_at hl 1 rfl) ?_
                      refine lv_istore_n (lv' := [(3, .int (p1 + (zleF (vw 300 md k at1.toNatClampNeg)))), (4, .int (nn + 1)), (7, .int (p1 + (zleF (vw 300 md k at1.toNatClampNeg)))), (5, .int 1), (6, .int (vw 300 md k at1.toNatClampNeg)), (0, .ref z0), (1, .int k), (2, .int (300 * k))]) hx hb d_Z_runBytes_308 rfl hl (by decide) rfl (fun ls hl => ?_)
                      refine lv_goto (tgt := 14) hx hb d_Z_runBytes_309 (by decide) ?_
                      exact ih (p1 + (zleF (vw 300 md k at1.toNatClampNeg))) (nn + 1) 1 rg1 (vp_updL pp1 nn.toNatClampNeg (rg1 (vw 300 md k (at1 + 1).toNatClampNeg).toNatClampNeg)) sp1 en1 (at1 + zleF (vw 300 md k at1.toNatClampNeg)) (kk + 1) _ _ ls (Or.inl ⟨c_18, (by rw [hp, Int32.add_assoc]), (fun z => absurd z (by decide)), byC_1 hY hR hB (ne2000 hB.2.2.2.2.1 c_52) c_93⟩) hP hD hS (lv_sub hl [5, 6, 7, 0, 1, 3] rfl)
                  · refine lv_iload hx hb d_Z_runBytes_96 (lv_at hl 2 rfl) ?_
                    refine lv_iconst (v := 3) hx hb d_Z_runBytes_98 (by decide) ?_
                    refine lv_icmp_eq (tgt := 109) hx hb d_Z_runBytes_99 (by decide) (fun c_99 => ?_) (fun c_99 => ?_)
                    · refine lv_aload_n hx hb d_Z_runBytes_109 rfl (lv_at hl 3 rfl) ?_
                      refine va_get (ci := 5) (v := .ref y12) (C := R_Z) (T := T_Z) (N := 26) hx hb ht in_Z hown hK.1 hP 0 rfl rfl 18 (by decide) (ht _ k_fl_Z_44) (fun _ h9 => h9) rfl d_Z_runBytes_110 ?_
                      refine lv_iload hx hb d_Z_runBytes_113 (lv_at hl 7 rfl) ?_
                      refine lv_iload hx hb d_Z_runBytes_115 (lv_at hl 2 rfl) ?_
                      refine lv_iconst (v := 1) hx hb d_Z_runBytes_117 (by decide) ?_
                      refine lv_icmp_ne (tgt := 137) hx hb d_Z_runBytes_118 (by decide) (fun c_118 => ?_) (fun c_118 => ?_)
                      · refine lv_aload_n hx hb d_Z_runBytes_137 rfl (lv_at hl 3 rfl) ?_
                        refine lv_iload_n hx hb d_Z_runBytes_138 rfl (lv_at hl 6 rfl) ?_
                        refine goRi (va_runV (As := [.int p1]) (rest := [.int nn, .ref y12]) ⟨hx, hb, hml, hown, hts⟩ (c_Z_pushed l D cI cL cO z0 y1 y2 y3 y4 y5 y6 y7 y8 y9 y10 y11 y12 y13 y14 mn oo oa ob ss gg zz md sd da rg1 pp1 kp ot th li bl nw wr ru al sp1 en1 ke kb at0 p1 (by rw [hp]; exact in300 hk ⟨ha0, by omega⟩) (by have hl := hlen; rw [c_99, show (zleF 3).toInt = 5 by decide] at hl; exact (vwj (f := md) hk hp (j := 1) (m := 1) (by decide) (by decide) ha0 (by omega)).2) (fun _ => by have hl := hlen; rw [c_99, show (zleF 3).toInt = 5 by decide] at hl; exact ⟨(vwj (f := md) hk hp (j := 2) (m := 2) (by decide) (by decide) ha0 (by omega)).2, (vwj (f := md) hk hp (j := 3) (m := 3) (by decide) (by decide) ha0 (by omega)).2, (vwj (f := md) hk hp (j := 4) (m := 4) (by decide) (by decide) ha0 (by omega)).2⟩)) (cwV 1 hts (gBIG (m4 k_ml_Z_134 k_im_Z_pushed k_sel_Z_pushed k_ini_Z) k_co_Z_pushed) rfl rfl rfl (by decide +kernel) ⟨Nat.le_of_ble_eq_true rfl, Nat.le_of_ble_eq_true rfl⟩) ⟨PR.bl, va_recv hK.1 ((P_app.mp hP).1) (ci := 5) (q0 := 0) rfl rfl, PR.pre ((P_app.mp hP).1) hK⟩ rfl rfl hl.1 rfl (lv_room (Nat.le_of_ble_eq_true rfl)) d_Z_runBytes_139 ⟨Nat.le_of_ble_eq_true rfl, Nat.le_of_ble_eq_true rfl⟩) ?_
                        refine lv_i2l (v := (zpsF (md p1.toNatClampNeg) (md (p1 + 1).toNatClampNeg) (md (p1 + 2).toNatClampNeg) (md (p1 + 3).toNatClampNeg) (md (p1 + 4).toNatClampNeg)).toInt64) hx hb d_Z_runBytes_142 rfl ?_
                        refine va_last hx hb hK.1 hP hD hS 12 1 rfl rfl (in8 hg0 hg4) d_Z_runBytes_143 (fun H locs hP hD hS => ?_)
                        have hP : va_P D vwCl ((wZ cI cL z0 y1 y2 y3 y4 y5 y6 y7 y8 y9 y10 y11 y12 y13 y14 mn oo oa ob ss gg zz md sd da rg1 (vp_updL pp1 nn.toNatClampNeg ((zpsF (md p1.toNatClampNeg) (md (p1 + 1).toNatClampNeg) (md (p1 + 2).toNatClampNeg) (md (p1 + 3).toNatClampNeg) (md (p1 + 4).toNatClampNeg)).toInt64)) kp ot th li bl nw wr ru al sp1 en1 ke kb at0) ++ fr) H := hP
                        have hD : va_D A ((wZ cI cL z0 y1 y2 y3 y4 y5 y6 y7 y8 y9 y10 y11 y12 y13 y14 mn oo oa ob ss gg zz md sd da rg1 (vp_updL pp1 nn.toNatClampNeg ((zpsF (md p1.toNatClampNeg) (md (p1 + 1).toNatClampNeg) (md (p1 + 2).toNatClampNeg) (md (p1 + 3).toNatClampNeg) (md (p1 + 4).toNatClampNeg)).toInt64)) kp ot th li bl nw wr ru al sp1 en1 ke kb at0) ++ fr) := hD
                        refine lv_iinc (v := nn + 1) (lv' := [(4, .int (nn + 1)), (7, .int (p1 + (zleF (vw 300 md k at1.toNatClampNeg)))), (5, .int 1), (6, .int (vw 300 md k at1.toNatClampNeg)), (0, .ref z0), (1, .int k), (2, .int (300 * k)), (3, .int p1)]) hx hb d_Z_runBytes_144 hl (k := 7) rfl rfl (by decide) rfl (fun ls hl => ?_)
                        refine lv_goto (tgt := 306) hx hb d_Z_runBytes_147 (by decide) ?_
                        refine lv_iload hx hb d_Z_runBytes_306 (lv_at hl 1 rfl) ?_
                        refine lv_istore_n (lv' := [(3, .int (p1 + (zleF (vw 300 md k at1.toNatClampNeg)))), (4, .int (nn + 1)), (7, .int (p1 + (zleF (vw 300 md k at1.toNatClampNeg)))), (5, .int 1), (6, .int (vw 300 md k at1.toNatClampNeg)), (0, .ref z0), (1, .int k), (2, .int (300 * k))]) hx hb d_Z_runBytes_308 rfl hl (by decide) rfl (fun ls hl => ?_)
                        refine lv_goto (tgt := 14) hx hb d_Z_runBytes_309 (by decide) ?_
                        exact ih (p1 + (zleF (vw 300 md k at1.toNatClampNeg))) (nn + 1) 1 rg1 (vp_updL pp1 nn.toNatClampNeg ((zpsF (md p1.toNatClampNeg) (md (p1 + 1).toNatClampNeg) (md (p1 + 2).toNatClampNeg) (md (p1 + 3).toNatClampNeg) (md (p1 + 4).toNatClampNeg)).toInt64)) sp1 en1 (at1 + zleF (vw 300 md k at1.toNatClampNeg)) (kk + 1) _ _ ls (Or.inl ⟨c_18, (by rw [hp, Int32.add_assoc]), (fun z => absurd z (by decide)), (by rw [hcv3 md hp c_99]; exact byC_3 hY hR hB (ne2000 hB.2.2.2.2.1 c_52) c_99)⟩) hP hD hS (lv_sub hl [5, 6, 7, 0, 1, 3] rfl)
                      · exact absurd c_118 c_93
                    · refine lv_iload hx hb d_Z_runBytes_102 (lv_at hl 2 rfl) ?_
                      refine lv_bipush (v := 16) hx hb d_Z_runBytes_104 (by decide) ?_
                      refine lv_icmp_ne (tgt := 150) hx hb d_Z_runBytes_106 (by decide) (fun c_106 => ?_) (fun c_106 => ?_)
                      · refine lv_iload hx hb d_Z_runBytes_150 (lv_at hl 1 rfl) ?_
                        refine lv_if_eq (tgt := 242) hx hb d_Z_runBytes_152 (by decide) (fun c_152 => ?_) (fun c_152 => ?_)
                        · exact absurd c_152 (by decide)
                        · refine lv_iinc (v := nn + (-1)) (lv' := [(4, .int (nn + (-1))), (7, .int (p1 + (zleF (vw 300 md k at1.toNatClampNeg)))), (5, .int 1), (6, .int (vw 300 md k at1.toNatClampNeg)), (0, .ref z0), (1, .int k), (2, .int (300 * k)), (3, .int p1)]) hx hb d_Z_runBytes_155 hl (k := 7) rfl rfl (by decide) rfl (fun ls hl => ?_)
                          refine lv_aload_n hx hb d_Z_runBytes_158 rfl (lv_at hl 4 rfl) ?_
                          refine lv_dup hx hb d_Z_runBytes_159 rfl ?_
                          refine va_get (ci := 5) (v := .int sp1) (C := R_Z) (T := T_Z) (N := 26) hx hb ht in_Z hown hK.1 hP 0 rfl rfl 19 (by decide) (ht _ k_fl_Z_124) (fun _ h9 => h9) rfl d_Z_runBytes_160 ?_
                          refine lv_iconst (v := 1) hx hb d_Z_runBytes_163 (by decide) ?_
                          refine lv_iadd hx hb d_Z_runBytes_164 ?_
                          refine va_put (ci := 5) (v := .int (sp1 + 1)) (ty := .int) (C := R_Z) (T := T_Z) (N := 26) hx hb ht in_Z t_Z t_Z_ok n_Z hown hK.1 hP hD hS 0 rfl rfl 19 (by decide) (ht _ k_fl_Z_124) (fun _ h9 => h9) rfl (by decide +kernel) rfl rfl (Nat.le_of_ble_eq_true rfl) d_Z_runBytes_165 (fun H locs hP hD hS => ?_)
                          have hP : va_P D vwCl ((wZ cI cL z0 y1 y2 y3 y4 y5 y6 y7 y8 y9 y10 y11 y12 y13 y14 mn oo oa ob ss gg zz md sd da rg1 pp1 kp ot th li bl nw wr ru al (sp1 + 1) en1 ke kb at0) ++ fr) H := hP
                          have hD : va_D A ((wZ cI cL z0 y1 y2 y3 y4 y5 y6 y7 y8 y9 y10 y11 y12 y13 y14 mn oo oa ob ss gg zz md sd da rg1 pp1 kp ot th li bl nw wr ru al (sp1 + 1) en1 ke kb at0) ++ fr) := hD
                          refine lv_iload hx hb d_Z_runBytes_168 (lv_at hl 3 rfl) ?_
                          refine lv_iconst (v := 2) hx hb d_Z_runBytes_170 (by decide) ?_
                          refine lv_icmp_ne (tgt := 197) hx hb d_Z_runBytes_171 (by decide) (fun c_171 => ?_) (fun c_171 => ?_)
                          · refine lv_aload_n hx hb d_Z_runBytes_197 rfl (lv_at hl 4 rfl) ?_
                            refine va_get (ci := 5) (v := .ref y12) (C := R_Z) (T := T_Z) (N := 26) hx hb ht in_Z hown hK.1 hP 0 rfl rfl 18 (by decide) (ht _ k_fl_Z_44) (fun _ h9 => h9) rfl d_Z_runBytes_198 ?_
                            refine lv_iload hx hb d_Z_runBytes_201 (lv_at hl 0 rfl) ?_
                            refine va_lald hx hb hK.1 hP 12 1 rfl rfl (in8m (by have := ta_ge hRa hge; rw [c_71, show (ztaF 9).toInt = 1 by decide] at this; omega) hg4).1 d_Z_runBytes_203 ?_
                            refine lv_lconst (v := 0) hx hb d_Z_runBytes_204 (by decide) ?_
                            refine W.lcmp hx hb d_Z_runBytes_205 ?_
                            refine lv_if_eq (tgt := 235) hx hb d_Z_runBytes_206 (by decide) (fun c_206 => ?_) (fun c_206 => ?_)
                            · refine lv_iload hx hb d_Z_runBytes_235 (lv_at hl 1 rfl) ?_
                              refine lv_istore (lv' := [(7, .int (p1 + (zleF (vw 300 md k at1.toNatClampNeg)))), (4, .int (nn + (-1))), (5, .int 1), (6, .int (vw 300 md k at1.toNatClampNeg)), (0, .ref z0), (1, .int k), (2, .int (300 * k)), (3, .int p1)]) hx hb d_Z_runBytes_237 hl (by decide) rfl (fun ls hl => ?_)
                              refine lv_goto (tgt := 306) hx hb d_Z_runBytes_239 (by decide) ?_
                              refine lv_iload hx hb d_Z_runBytes_306 (lv_at hl 0 rfl) ?_
                              refine lv_istore_n (lv' := [(3, .int (p1 + (zleF (vw 300 md k at1.toNatClampNeg)))), (7, .int (p1 + (zleF (vw 300 md k at1.toNatClampNeg)))), (4, .int (nn + (-1))), (5, .int 1), (6, .int (vw 300 md k at1.toNatClampNeg)), (0, .ref z0), (1, .int k), (2, .int (300 * k))]) hx hb d_Z_runBytes_308 rfl hl (by decide) rfl (fun ls hl => ?_)
                              refine lv_goto (tgt := 14) hx hb d_Z_runBytes_309 (by decide) ?_
                              exact ih (p1 + (zleF (vw 300 md k at1.toNatClampNeg))) (nn + (-1)) 1 rg1 pp1 (sp1 + 1) en1 (at1 + zleF (vw 300 md k at1.toNatClampNeg)) (kk + 1) _ _ ls (Or.inl ⟨c_18, (by rw [hp, Int32.add_assoc]), (fun z => absurd z (by decide)), byC_9f hR hB (ne2000 hB.2.2.2.2.1 c_52) c_71 c_206⟩) hP hD hS (lv_sub hl [5, 6, 7, 0, 2, 3] rfl)
                            · refine lv_iload_n hx hb d_Z_runBytes_209 rfl (lv_at hl 6 rfl) ?_
                              refine lv_sipush (v := 256) hx hb d_Z_runBytes_210 (by decide) ?_
                              refine lv_aload_n hx hb d_Z_runBytes_213 rfl (lv_at hl 4 rfl) ?_
                              refine va_get (ci := 5) (v := .ref y8) (C := R_Z) (T := T_Z) (N := 26) hx hb ht in_Z hown hK.1 hP 0 rfl rfl 14 (by decide) (ht _ k_fl_Z_31) (fun _ h9 => h9) rfl d_Z_runBytes_214 ?_
                              refine lv_iload_n hx hb d_Z_runBytes_217 rfl (lv_at hl 7 rfl) ?_
                              refine lv_iconst (v := 1) hx hb d_Z_runBytes_218 (by decide) ?_
                              refine lv_iadd hx hb d_Z_runBytes_219 ?_
                              refine va_iald hx hb hK.1 hP 8 0 rfl rfl (vwj (f := md) hk hp (j := 1) (m := 1) (by decide) (by decide) ha0 (by have := (byC_9t hY hR hB (ne2000 hB.2.2.2.2.1 c_52) c_71 c_206).2; omega)).2 d_Z_runBytes_220 ?_
                              rw [show md (p1 + 1).toNatClampNeg = vw 300 md k (at1 + 1).toNatClampNeg from (vwj (f := md) hk hp (j := 1) (m := 1) (by decide) (by decide) ha0 (by have := (byC_9t hY hR hB (ne2000 hB.2.2.2.2.1 c_52) c_71 c_206).2; omega)).1]
                              refine lv_imul hx hb d_Z_runBytes_221 ?_
                              refine lv_iadd hx hb d_Z_runBytes_222 ?_
                              refine lv_aload_n hx hb d_Z_runBytes_223 rfl (lv_at hl 4 rfl) ?_
                              refine va_get (ci := 5) (v := .ref y8) (C := R_Z) (T := T_Z) (N := 26) hx hb ht in_Z hown hK.1 hP 0 rfl rfl 14 (by decide) (ht _ k_fl_Z_31) (fun _ h9 => h9) rfl d_Z_runBytes_224 ?_
                              refine lv_iload_n hx hb d_Z_runBytes_227 rfl (lv_at hl 7 rfl) ?_
                              refine lv_iconst (v := 2) hx hb d_Z_runBytes_228 (by decide) ?_
                              refine lv_iadd hx hb d_Z_runBytes_229 ?_
                              refine va_iald hx hb hK.1 hP 8 0 rfl rfl (vwj (f := md) hk hp (j := 2) (m := 2) (by decide) (by decide) ha0 (by have := (byC_9t hY hR hB (ne2000 hB.2.2.2.2.1 c_52) c_71 c_206).2; omega)).2 d_Z_runBytes_230 ?_
                              rw [show md (p1 + 2).toNatClampNeg = vw 300 md k (at1 + 2).toNatClampNeg from (vwj (f := md) hk hp (j := 2) (m := 2) (by decide) (by decide) ha0 (by have := (byC_9t hY hR hB (ne2000 hB.2.2.2.2.1 c_52) c_71 c_206).2; omega)).1]
                              refine lv_iadd hx hb d_Z_runBytes_231 ?_
                              refine lv_goto (tgt := 237) hx hb d_Z_runBytes_232 (by decide) ?_
                              refine lv_istore (lv' := [(7, .int (((300 * k) + (256 * (vw 300 md k (at1 + 1).toNatClampNeg))) + (vw 300 md k (at1 + 2).toNatClampNeg))), (4, .int (nn + (-1))), (5, .int 1), (6, .int (vw 300 md k at1.toNatClampNeg)), (0, .ref z0), (1, .int k), (2, .int (300 * k)), (3, .int p1)]) hx hb d_Z_runBytes_237 hl (by decide) rfl (fun ls hl => ?_)
                              refine lv_goto (tgt := 306) hx hb d_Z_runBytes_239 (by decide) ?_
                              refine lv_iload hx hb d_Z_runBytes_306 (lv_at hl 0 rfl) ?_
                              refine lv_istore_n (lv' := [(3, .int (((300 * k) + (256 * (vw 300 md k (at1 + 1).toNatClampNeg))) + (vw 300 md k (at1 + 2).toNatClampNeg))), (7, .int (((300 * k) + (256 * (vw 300 md k (at1 + 1).toNatClampNeg))) + (vw 300 md k (at1 + 2).toNatClampNeg))), (4, .int (nn + (-1))), (5, .int 1), (6, .int (vw 300 md k at1.toNatClampNeg)), (0, .ref z0), (1, .int k), (2, .int (300 * k))]) hx hb d_Z_runBytes_308 rfl hl (by decide) rfl (fun ls hl => ?_)
                              refine lv_goto (tgt := 14) hx hb d_Z_runBytes_309 (by decide) ?_
                              exact ih (((300 * k) + (256 * (vw 300 md k (at1 + 1).toNatClampNeg))) + (vw 300 md k (at1 + 2).toNatClampNeg)) (nn + (-1)) 1 rg1 pp1 (sp1 + 1) en1 (256 * (vw 300 md k (at1 + 1).toNatClampNeg) + (vw 300 md k (at1 + 2).toNatClampNeg)) (kk + 1) _ _ ls (Or.inl ⟨c_18, (Int32.add_assoc _ _ _), (fun z => absurd z (by decide)), (byC_9t hY hR hB (ne2000 hB.2.2.2.2.1 c_52) c_71 c_206).1⟩) hP hD hS (lv_sub hl [5, 6, 7, 0, 2, 3] rfl)
                          · exact absurd c_171 c_64
                      · refine lv_aload_n hx hb d_Z_runBytes_109 rfl (lv_at hl 3 rfl) ?_
                        refine va_get (ci := 5) (v := .ref y12) (C := R_Z) (T := T_Z) (N := 26) hx hb ht in_Z hown hK.1 hP 0 rfl rfl 18 (by decide) (ht _ k_fl_Z_44) (fun _ h9 => h9) rfl d_Z_runBytes_110 ?_
                        refine lv_iload hx hb d_Z_runBytes_113 (lv_at hl 7 rfl) ?_
                        refine lv_iload hx hb d_Z_runBytes_115 (lv_at hl 2 rfl) ?_
                        refine lv_iconst (v := 1) hx hb d_Z_runBytes_117 (by decide) ?_
                        refine lv_icmp_ne (tgt := 137) hx hb d_Z_runBytes_118 (by decide) (fun c_118 => ?_) (fun c_118 => ?_)
                        · refine lv_aload_n hx hb d_Z_runBytes_137 rfl (lv_at hl 3 rfl) ?_
                          refine lv_iload_n hx hb d_Z_runBytes_138 rfl (lv_at hl 6 rfl) ?_
                          refine goRi (va_runV (As := [.int p1]) (rest := [.int nn, .ref y12]) ⟨hx, hb, hml, hown, hts⟩ (c_Z_pushed l D cI cL cO z0 y1 y2 y3 y4 y5 y6 y7 y8 y9 y10 y11 y12 y13 y14 mn oo oa ob ss gg zz md sd da rg1 pp1 kp ot th li bl nw wr ru al sp1 en1 ke kb at0 p1 (by rw [hp]; exact in300 hk ⟨ha0, by omega⟩) (by have hl := hlen; rw [c_106, show (zleF 16).toInt = 2 by decide] at hl; exact (vwj (f := md) hk hp (j := 1) (m := 1) (by decide) (by decide) ha0 (by omega)).2) (fun z => absurd (show md p1.toNatClampNeg = 16 by rw [show md p1.toNatClampNeg = vw 300 md k at1.toNatClampNeg from (by rw [hp]; exact vw300 hk ⟨ha0, by omega⟩)]; exact c_106) z)) (cwV 1 hts (gBIG (m4 k_ml_Z_134 k_im_Z_pushed k_sel_Z_pushed k_ini_Z) k_co_Z_pushed) rfl rfl rfl (by decide +kernel) ⟨Nat.le_of_ble_eq_true rfl, Nat.le_of_ble_eq_true rfl⟩) ⟨PR.bl, va_recv hK.1 ((P_app.mp hP).1) (ci := 5) (q0 := 0) rfl rfl, PR.pre ((P_app.mp hP).1) hK⟩ rfl rfl hl.1 rfl (lv_room (Nat.le_of_ble_eq_true rfl)) d_Z_runBytes_139 ⟨Nat.le_of_ble_eq_true rfl, Nat.le_of_ble_eq_true rfl⟩) ?_
                          refine lv_i2l (v := (zpsF (md p1.toNatClampNeg) (md (p1 + 1).toNatClampNeg) (md (p1 + 2).toNatClampNeg) (md (p1 + 3).toNatClampNeg) (md (p1 + 4).toNatClampNeg)).toInt64) hx hb d_Z_runBytes_142 rfl ?_
                          refine va_last hx hb hK.1 hP hD hS 12 1 rfl rfl (in8 hg0 hg4) d_Z_runBytes_143 (fun H locs hP hD hS => ?_)
                          have hP : va_P D vwCl ((wZ cI cL z0 y1 y2 y3 y4 y5 y6 y7 y8 y9 y10 y11 y12 y13 y14 mn oo oa ob ss gg zz md sd da rg1 (vp_updL pp1 nn.toNatClampNeg ((zpsF (md p1.toNatClampNeg) (md (p1 + 1).toNatClampNeg) (md (p1 + 2).toNatClampNeg) (md (p1 + 3).toNatClampNeg) (md (p1 + 4).toNatClampNeg)).toInt64)) kp ot th li bl nw wr ru al sp1 en1 ke kb at0) ++ fr) H := hP
                          have hD : va_D A ((wZ cI cL z0 y1 y2 y3 y4 y5 y6 y7 y8 y9 y10 y11 y12 y13 y14 mn oo oa ob ss gg zz md sd da rg1 (vp_updL pp1 nn.toNatClampNeg ((zpsF (md p1.toNatClampNeg) (md (p1 + 1).toNatClampNeg) (md (p1 + 2).toNatClampNeg) (md (p1 + 3).toNatClampNeg) (md (p1 + 4).toNatClampNeg)).toInt64)) kp ot th li bl nw wr ru al sp1 en1 ke kb at0) ++ fr) := hD
                          refine lv_iinc (v := nn + 1) (lv' := [(4, .int (nn + 1)), (7, .int (p1 + (zleF (vw 300 md k at1.toNatClampNeg)))), (5, .int 1), (6, .int (vw 300 md k at1.toNatClampNeg)), (0, .ref z0), (1, .int k), (2, .int (300 * k)), (3, .int p1)]) hx hb d_Z_runBytes_144 hl (k := 7) rfl rfl (by decide) rfl (fun ls hl => ?_)
                          refine lv_goto (tgt := 306) hx hb d_Z_runBytes_147 (by decide) ?_
                          refine lv_iload hx hb d_Z_runBytes_306 (lv_at hl 1 rfl) ?_
                          refine lv_istore_n (lv' := [(3, .int (p1 + (zleF (vw 300 md k at1.toNatClampNeg)))), (4, .int (nn + 1)), (7, .int (p1 + (zleF (vw 300 md k at1.toNatClampNeg)))), (5, .int 1), (6, .int (vw 300 md k at1.toNatClampNeg)), (0, .ref z0), (1, .int k), (2, .int (300 * k))]) hx hb d_Z_runBytes_308 rfl hl (by decide) rfl (fun ls hl => ?_)
                          refine lv_goto (tgt := 14) hx hb d_Z_runBytes_309 (by decide) ?_
                          exact ih (p1 + (zleF (vw 300 md k at1.toNatClampNeg))) (nn + 1) 1 rg1 (vp_updL pp1 nn.toNatClampNeg ((zpsF (md p1.toNatClampNeg) (md (p1 + 1).toNatClampNeg) (md (p1 + 2).toNatClampNeg) (md (p1 + 3).toNatClampNeg) (md (p1 + 4).toNatClampNeg)).toInt64)) sp1 en1 (at1 + zleF (vw 300 md k at1.toNatClampNeg)) (kk + 1) _ _ ls (Or.inl ⟨c_18, (by rw [hp, Int32.add_assoc]), (fun z => absurd z (by decide)), (by rw [hcv16 md hp c_106]; exact byC_16 hY hR hB (ne2000 hB.2.2.2.2.1 c_52) c_106)⟩) hP hD hS (lv_sub hl [5, 6, 7, 0, 1, 3] rfl)
                        · exact absurd c_118 c_93
            · refine lv_aload_n hx hb d_Z_runBytes_55 rfl (lv_at hl 1 rfl) ?_
              refine lv_iconst (v := 2) hx hb d_Z_runBytes_56 (by decide) ?_
              refine va_put (ci := 5) (v := .int 2) (ty := .int) (C := R_Z) (T := T_Z) (N := 26) hx hb ht in_Z t_Z t_Z_ok n_Z hown hK.1 hP hD hS 0 rfl rfl 20 (by decide) (ht _ k_fl_Z_127) (fun _ h9 => h9) rfl (by decide +kernel) rfl rfl (Nat.le_of_ble_eq_true rfl) d_Z_runBytes_57 (fun H locs hP hD hS => ?_)
              have hP : va_P D vwCl ((wZ cI cL z0 y1 y2 y3 y4 y5 y6 y7 y8 y9 y10 y11 y12 y13 y14 mn oo oa ob ss gg zz md sd da rg1 pp1 kp ot th li bl nw wr ru al sp1 2 ke kb at0) ++ fr) H := hP
              have hD : va_D A ((wZ cI cL z0 y1 y2 y3 y4 y5 y6 y7 y8 y9 y10 y11 y12 y13 y14 mn oo oa ob ss gg zz md sd da rg1 pp1 kp ot th li bl nw wr ru al sp1 2 ke kb at0) ++ fr) := hD
              rw [hQ]; exact retMv (w1 := fun u : FL × FL × Int32 × Int32 => ((wZ cI cL z0 y1 y2 y3 y4 y5 y6 y7 y8 y9 y10 y11 y12 y13 y14 mn oo oa ob ss gg zz md sd da u.1 u.2.1 kp ot th li bl nw wr ru al u.2.2.1 u.2.2.2 ke kb at0) ++ fr)) (rg1, pp1, sp1, 2) hx hb hr hlocks hP hD hS (by have := byI_s hR hB c_29 c_52; exact ⟨congrArg (·.1) this, congrArg (·.2.2.1) this, congrArg (·.2.2.2) this⟩) d_Z_runBytes_60
  exact lp 600301 (300 * k) 0 0 rg pp sp en (0 : Int32) (0 : Int32) _ _ ls (Or.inl ⟨hen, (Int32.add_zero _).symm, fun _ => by rw [hsp]; decide, by decide, by rw [Int32.toInt_zero]; exact hR.1, by show ¬ (vcF (vw 300 md k) (zz k.toNatClampNeg)).2 0 < 0; rw [hR.2.2.1]; decide, hR.2.2.1.symm, by rw [hsp]; decide, by decide, by rw [hsp]; decide, by decide, by rw [hsp]⟩) hP hD hS (lv_sub hl [4, 5, 3, 2, 1, 0] rfl)
