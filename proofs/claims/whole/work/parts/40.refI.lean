/-- only block k's bytes have changed -/
def MF (k : Int32) (f g : Fn) : Prop := ∀ j : Nat, j < 300 * k.toNatClampNeg ∨ 300 * k.toNatClampNeg + 300 ≤ j → g j = f j
theorem MF.rf {k : Int32} {f : Fn} : MF k f f := fun _ _ => rfl
theorem MF.tr {k : Int32} {f g h : Fn} (a : MF k f g) (b : MF k g h) : MF k f h := fun j hj => (b j hj).trans (a j hj)
theorem vw_upd {k : Int32} {f : Fn} {a : Nat} {v : Int32} : vw 300 (upd f (300 * k.toNatClampNeg + a) v) k = upd (vw 300 f k) a v := by
  funext j
  by_cases e : j = a
  · rw [e, pk_us]; exact pk_us
  · rw [pk_un e]; exact pk_un (by omega)
theorem put_1 {P : Prop} {k a v : Int32} {f : Fn} (hk : 0 ≤ k.toInt ∧ k.toInt < 24 ∧ P) (ha : 0 ≤ a.toInt ∧ a.toInt < 300) : (vw 300 (upd f (300 * k + a).toNatClampNeg (v &&& 255)) k, a + 1) = apF v (vw 300 f k, a) ∧ (a + 1).toInt = a.toInt + 1 ∧ MF k f (upd f (300 * k + a).toNatClampNeg (v &&& 255)) := by
  rw [cl300 hk ha, vw_upd]
  have h3 : ¬ (300 : Int32) ≤ a := by rw [Int32.le_iff_toInt_le, show (300 : Int32).toInt = 300 by decide]; omega
  refine ⟨by simp only [apF, if_neg h3], i32_1 (by omega), fun j hj => pk_un ?_⟩
  have := clN ha.1
  omega
theorem in61 {x : Int32} (h0 : 0 ≤ x.toInt) (h1 : x.toInt ≤ 60) : vp_in x 61 := vp_in_iff.mpr ⟨h0, by omega⟩
theorem fit_wi (n : Int32) : fitsB n = wiF n (-128) 127 := rfl

abbrev w_Z_put : List Cond := .code y_Z_put b_Z_put 3 none :: BIG
set_option maxHeartbeats 4000000 in
set_option maxRecDepth 100000 in
theorem c_Z_put (l : Launch) (D : va_G) (cI cL cO : ClassId) (z0 : Nat) (y1 : Nat) (y2 : Nat) (y3 : Nat) (y4 : Nat) (y5 : Nat) (y6 : Nat) (y7 : Nat) (y8 : Nat) (y9 : Nat) (y10 : Nat) (y11 : Nat) (y12 : Nat) (y13 : Nat) (y14 : Nat) (mn : Fn) (oo : Fn) (oa : Fn) (ob : Fn) (ss : Fn) (gg : Fn) (zz : Fn) (md : Fn) (sd : Fn) (da : Fn) (rg : FL) (pp : FL) (kp : FL) (ot : FL) (th : Int32) (li : Int32) (bl : Int32) (nw : Int32) (wr : Int32) (ru : Int32) (al : Int32) (sp : Int32) (en : Int32) (ke : Int32) (kb : Int32) (at0 : Int32) (fr : va_W) (k : Int32) (v : Int32) (hk : 0 ≤ k.toInt ∧ k.toInt < 24 ∧ True) (hat : 0 ≤ at0.toInt ∧ at0.toInt < 300) : CMv l y_Z_put w_Z_put ({ frames := 0, cells := 0, slots := 0, locals := 0 }) D cI cL cO [.ref z0, .int k, .int v] ((wZ cI cL z0 y1 y2 y3 y4 y5 y6 y7 y8 y9 y10 y11 y12 y13 y14 mn oo oa ob ss gg zz md sd da rg pp kp ot th li bl nw wr ru al sp en ke kb at0) ++ fr) (fun u : Fn × Int32 => (vw 300 u.1 k, u.2) = apF v (vw 300 md k, at0) ∧ u.2.toInt = at0.toInt + 1 ∧ MF k md u.1) (fun u : Fn × Int32 => ((wZ cI cL z0 y1 y2 y3 y4 y5 y6 y7 y8 y9 y10 y11 y12 y13 y14 mn oo oa ob ss gg zz u.1 sd da rg pp kp ot th li bl nw wr ru al sp en ke kb u.2) ++ fr)) 0 0 := by
  refine ofMv (cc := b_Z_put) (maxL := 3) (ret := none) (by decide) rfl (Nat.le_of_ble_eq_true rfl) ?_
  intro p e s m below meth c A ls H Q hQ hx hb hr hlocks hin hts hown hml hP hK hD hS hA hl
  have hl : lv_has ls 3 [(0, .ref z0), (1, .int k), (2, .int v)] := hl
  have hown : s.vm.findClass R_Z = some m.cls := hown
  have ht : ∀ w ∈ BIG, w.before _ s = true := fun w h => hts w (List.mem_cons_of_mem _ h)
  refine lv_aload_n hx hb d_Z_put_0 rfl (lv_at hl 0 rfl) ?_
  refine va_get (ci := 5) (v := .ref y8) (C := R_Z) (T := T_Z) (N := 26) hx hb ht in_Z hown hK.1 hP 0 rfl rfl 14 (by decide) (ht _ k_fl_Z_31) (fun _ h9 => h9) rfl d_Z_put_1 ?_
  refine lv_sipush (v := 300) hx hb d_Z_put_4 (by decide) ?_
  refine lv_iload_n hx hb d_Z_put_7 rfl (lv_at hl 1 rfl) ?_
  refine lv_imul hx hb d_Z_put_8 ?_
  refine lv_aload_n hx hb d_Z_put_9 rfl (lv_at hl 0 rfl) ?_
  refine va_get (ci := 5) (v := .int at0) (C := R_Z) (T := T_Z) (N := 26) hx hb ht in_Z hown hK.1 hP 0 rfl rfl 25 (by decide) (ht _ k_fl_Z_78) (fun _ h9 => h9) rfl d_Z_put_10 ?_
  refine lv_iadd hx hb d_Z_put_13 ?_
  refine lv_iload_n hx hb d_Z_put_14 rfl (lv_at hl 2 rfl) ?_
  refine lv_sipush (v := 255) hx hb d_Z_put_15 (by decide) ?_
  refine lv_iand hx hb d_Z_put_18 ?_
  refine va_iast hx hb hK.1 hP hD hS 8 0 rfl rfl (in300 hk hat) d_Z_put_19 (fun H locs hP hD hS => ?_)
  have hP : va_P D vwCl ((wZ cI cL z0 y1 y2 y3 y4 y5 y6 y7 y8 y9 y10 y11 y12 y13 y14 mn oo oa ob ss gg zz (upd md ((300 * k) + at0).toNatClampNeg (v &&& 255)) sd da rg pp kp ot th li bl nw wr ru al sp en ke kb at0) ++ fr) H := hP
  have hD : va_D A ((wZ cI cL z0 y1 y2 y3 y4 y5 y6 y7 y8 y9 y10 y11 y12 y13 y14 mn oo oa ob ss gg zz (upd md ((300 * k) + at0).toNatClampNeg (v &&& 255)) sd da rg pp kp ot th li bl nw wr ru al sp en ke kb at0) ++ fr) := hD
  refine lv_aload_n hx hb d_Z_put_20 rfl (lv_at hl 0 rfl) ?_
  refine lv_dup hx hb d_Z_put_21 rfl ?_
  refine va_get (ci := 5) (v := .int at0) (C := R_Z) (T := T_Z) (N := 26) hx hb ht in_Z hown hK.1 hP 0 rfl rfl 25 (by decide) (ht _ k_fl_Z_78) (fun _ h9 => h9) rfl d_Z_put_22 ?_
  refine lv_iconst (v := 1) hx hb d_Z_put_25 (by decide) ?_
  refine lv_iadd hx hb d_Z_put_26 ?_
  refine va_put (ci := 5) (v := .int (at0 + 1)) (ty := .int) (C := R_Z) (T := T_Z) (N := 26) hx hb ht in_Z t_Z t_Z_ok n_Z hown hK.1 hP hD hS 0 rfl rfl 25 (by decide) (ht _ k_fl_Z_78) (fun _ h9 => h9) rfl (by decide +kernel) rfl rfl (Nat.le_of_ble_eq_true rfl) d_Z_put_27 (fun H locs hP hD hS => ?_)
  have hP : va_P D vwCl ((wZ cI cL z0 y1 y2 y3 y4 y5 y6 y7 y8 y9 y10 y11 y12 y13 y14 mn oo oa ob ss gg zz (upd md ((300 * k) + at0).toNatClampNeg (v &&& 255)) sd da rg pp kp ot th li bl nw wr ru al sp en ke kb (at0 + 1)) ++ fr) H := hP
  have hD : va_D A ((wZ cI cL z0 y1 y2 y3 y4 y5 y6 y7 y8 y9 y10 y11 y12 y13 y14 mn oo oa ob ss gg zz (upd md ((300 * k) + at0).toNatClampNeg (v &&& 255)) sd da rg pp kp ot th li bl nw wr ru al sp en ke kb (at0 + 1)) ++ fr) := hD
  rw [hQ]; exact retMv (w1 := fun u : Fn × Int32 => ((wZ cI cL z0 y1 y2 y3 y4 y5 y6 y7 y8 y9 y10 y11 y12 y13 y14 mn oo oa ob ss gg zz u.1 sd da rg pp kp ot th li bl nw wr ru al sp en ke kb u.2) ++ fr)) (upd md ((300 * k) + at0).toNatClampNeg (v &&& 255), at0 + 1) hx hb hr hlocks hP hD hS (put_1 hk hat) d_Z_put_30

abbrev w_Z_putTwo : List Cond := .code y_Z_putTwo b_Z_putTwo 4 none :: BIG
set_option maxHeartbeats 4000000 in
set_option maxRecDepth 100000 in
theorem c_Z_putTwo (l : Launch) (D : va_G) (cI cL cO : ClassId) (z0 : Nat) (y1 : Nat) (y2 : Nat) (y3 : Nat) (y4 : Nat) (y5 : Nat) (y6 : Nat) (y7 : Nat) (y8 : Nat) (y9 : Nat) (y10 : Nat) (y11 : Nat) (y12 : Nat) (y13 : Nat) (y14 : Nat) (mn : Fn) (oo : Fn) (oa : Fn) (ob : Fn) (ss : Fn) (gg : Fn) (zz : Fn) (md : Fn) (sd : Fn) (da : Fn) (rg : FL) (pp : FL) (kp : FL) (ot : FL) (th : Int32) (li : Int32) (bl : Int32) (nw : Int32) (wr : Int32) (ru : Int32) (al : Int32) (sp : Int32) (en : Int32) (ke : Int32) (kb : Int32) (at0 : Int32) (fr : va_W) (k : Int32) (cd : Int32) (rr : Int32) (hk : 0 ≤ k.toInt ∧ k.toInt < 24 ∧ True) (hat : 0 ≤ at0.toInt ∧ at0.toInt + 2 ≤ 300) : CMv l y_Z_putTwo w_Z_putTwo ({ frames := 1, cells := 0, slots := 0, locals := 22 }) D cI cL cO [.ref z0, .int k, .int cd, .int rr] ((wZ cI cL z0 y1 y2 y3 y4 y5 y6 y7 y8 y9 y10 y11 y12 y13 y14 mn oo oa ob ss gg zz md sd da rg pp kp ot th li bl nw wr ru al sp en ke kb at0) ++ fr) (fun u : Fn × Int32 => (vw 300 u.1 k, u.2) = wrR cd rr (vw 300 md k, at0) ∧ u.2.toInt = at0.toInt + 2 ∧ MF k md u.1) (fun u : Fn × Int32 => ((wZ cI cL z0 y1 y2 y3 y4 y5 y6 y7 y8 y9 y10 y11 y12 y13 y14 mn oo oa ob ss gg zz u.1 sd da rg pp kp ot th li bl nw wr ru al sp en ke kb u.2) ++ fr)) 0 0 := by
  refine ofMv (cc := b_Z_putTwo) (maxL := 4) (ret := none) (by decide) rfl (Nat.le_of_ble_eq_true rfl) ?_
  intro p e s m below meth c A ls H Q hQ hx hb hr hlocks hin hts hown hml hP hK hD hS hA hl
  have hl : lv_has ls 4 [(0, .ref z0), (1, .int k), (2, .int cd), (3, .int rr)] := hl
  have hown : s.vm.findClass R_Z = some m.cls := hown
  have ht : ∀ w ∈ BIG, w.before _ s = true := fun w h => hts w (List.mem_cons_of_mem _ h)
  refine lv_aload_n hx hb d_Z_putTwo_0 rfl (lv_at hl 0 rfl) ?_
  refine lv_iload_n hx hb d_Z_putTwo_1 rfl (lv_at hl 1 rfl) ?_
  refine lv_iload_n hx hb d_Z_putTwo_2 rfl (lv_at hl 2 rfl) ?_
  refine goMv (va_runV (As := [.int k, .int cd]) (rest := []) ⟨hx, hb, hml, hown, hts⟩ (c_Z_put l D cI cL cO z0 y1 y2 y3 y4 y5 y6 y7 y8 y9 y10 y11 y12 y13 y14 mn oo oa ob ss gg zz md sd da rg pp kp ot th li bl nw wr ru al sp en ke kb at0 fr k cd hk (by  omega) H.size) (cwV 2 hts (gBIG (m4 k_ml_Z_81 k_im_Z_put k_sel_Z_put k_ini_Z) k_co_Z_put) rfl rfl rfl (by decide +kernel) ⟨Nat.le_of_ble_eq_true rfl, Nat.le_of_ble_eq_true rfl⟩) ⟨PM.bl, va_recv hK.1 hP (ci := 5) (q0 := 0) rfl rfl, PM.pre hP hD hK⟩ rfl rfl hl.1 rfl (lv_room (Nat.le_of_ble_eq_true rfl)) d_Z_putTwo_3 ⟨Nat.le_of_ble_eq_true rfl, Nat.le_of_ble_eq_true rfl⟩) hD hS hA (fun u H locs hw hP hD hS => ?_)
  obtain ⟨md_3, at0_3⟩ := u
  have e_3 : (vw 300 md_3 k, at0_3) = apF cd (vw 300 md k, at0) ∧ at0_3.toInt = at0.toInt + 1 ∧ MF k md md_3 := hw
  have hP : va_P D vwCl ((wZ cI cL z0 y1 y2 y3 y4 y5 y6 y7 y8 y9 y10 y11 y12 y13 y14 mn oo oa ob ss gg zz md_3 sd da rg pp kp ot th li bl nw wr ru al sp en ke kb at0_3) ++ fr) H := hP
  have hD : va_D A ((wZ cI cL z0 y1 y2 y3 y4 y5 y6 y7 y8 y9 y10 y11 y12 y13 y14 mn oo oa ob ss gg zz md_3 sd da rg pp kp ot th li bl nw wr ru al sp en ke kb at0_3) ++ fr) := hD
  refine lv_aload_n hx hb d_Z_putTwo_6 rfl (lv_at hl 0 rfl) ?_
  refine lv_iload_n hx hb d_Z_putTwo_7 rfl (lv_at hl 1 rfl) ?_
  refine lv_iload_n hx hb d_Z_putTwo_8 rfl (lv_at hl 3 rfl) ?_
  refine goMv (va_runV (As := [.int k, .int rr]) (rest := []) ⟨hx, hb, hml, hown, hts⟩ (c_Z_put l D cI cL cO z0 y1 y2 y3 y4 y5 y6 y7 y8 y9 y10 y11 y12 y13 y14 mn oo oa ob ss gg zz md_3 sd da rg pp kp ot th li bl nw wr ru al sp en ke kb at0_3 fr k rr hk (by have := e_3.2.1;  omega) H.size) (cwV 2 hts (gBIG (m4 k_ml_Z_81 k_im_Z_put k_sel_Z_put k_ini_Z) k_co_Z_put) rfl rfl rfl (by decide +kernel) ⟨Nat.le_of_ble_eq_true rfl, Nat.le_of_ble_eq_true rfl⟩) ⟨PM.bl, va_recv hK.1 hP (ci := 5) (q0 := 0) rfl rfl, PM.pre hP hD hK⟩ rfl rfl hl.1 rfl (lv_room (Nat.le_of_ble_eq_true rfl)) d_Z_putTwo_9 ⟨Nat.le_of_ble_eq_true rfl, Nat.le_of_ble_eq_true rfl⟩) hD hS hA (fun u H locs hw hP hD hS => ?_)
  obtain ⟨md_9, at0_9⟩ := u
  have e_9 : (vw 300 md_9 k, at0_9) = apF rr (vw 300 md_3 k, at0_3) ∧ at0_9.toInt = at0_3.toInt + 1 ∧ MF k md_3 md_9 := hw
  have hP : va_P D vwCl ((wZ cI cL z0 y1 y2 y3 y4 y5 y6 y7 y8 y9 y10 y11 y12 y13 y14 mn oo oa ob ss gg zz md_9 sd da rg pp kp ot th li bl nw wr ru al sp en ke kb at0_9) ++ fr) H := hP
  have hD : va_D A ((wZ cI cL z0 y1 y2 y3 y4 y5 y6 y7 y8 y9 y10 y11 y12 y13 y14 mn oo oa ob ss gg zz md_9 sd da rg pp kp ot th li bl nw wr ru al sp en ke kb at0_9) ++ fr) := hD
  rw [hQ]; exact retMv (w1 := fun u : Fn × Int32 => ((wZ cI cL z0 y1 y2 y3 y4 y5 y6 y7 y8 y9 y10 y11 y12 y13 y14 mn oo oa ob ss gg zz u.1 sd da rg pp kp ot th li bl nw wr ru al sp en ke kb u.2) ++ fr)) (md_9, at0_9) hx hb hr hlocks hP hD hS ⟨by rw [e_9.1, e_3.1]; rfl, by have := e_9.2.1; have := e_3.2.1; omega, e_3.2.2.tr e_9.2.2⟩ d_Z_putTwo_12

theorem stx {ic b : Int32} (hi : 0 ≤ ic.toInt ∧ ic.toInt ≤ 60) (hb : 0 ≤ b.toInt) : stIx ic b = (if ic ≤ b then ic else b) ∧ 0 ≤ (stIx ic b).toInt ∧ (stIx ic b).toInt ≤ ic.toInt := by
  unfold stIx maxF minF
  by_cases q : ic < b
  · have q2 := i_plt q
    rw [if_pos q, if_pos (show ic ≤ b by rw [Int32.le_iff_toInt_le]; omega)]
    by_cases z : (0 : Int32) < ic
    · rw [if_pos z]; exact ⟨rfl, by omega, by omega⟩
    · rw [if_neg z]
      have := i_nlt z
      rw [Int32.toInt_zero] at this ⊢
      exact ⟨i32_ext (by rw [Int32.toInt_zero]; omega), by omega, by omega⟩
  · have q2 := i_nlt q
    rw [if_neg q]
    have e : (if ic ≤ b then ic else b) = b := by
      by_cases z : ic ≤ b
      · rw [if_pos z]; rw [Int32.le_iff_toInt_le] at z; exact i32_ext (by omega)
      · rw [if_neg z]
    rw [e]
    by_cases z : (0 : Int32) < b
    · rw [if_pos z]; exact ⟨rfl, by omega, by omega⟩
    · rw [if_neg z]
      have := i_nlt z
      rw [Int32.toInt_zero] at this ⊢
      exact ⟨i32_ext (by rw [Int32.toInt_zero]; omega), by omega, by omega⟩
/-- where a jump's goal stands, by the reference's row -/
theorem stS {T sd : Fn} {ic b : Int32} (hi : 0 ≤ ic.toInt ∧ ic.toInt ≤ 60) (hb : 0 ≤ b.toInt) (hs : ∀ j : Nat, (j : Int) ≤ ic.toInt → sd j = T j) : startF T ic b = sd (if ic ≤ b then ic else b).toNatClampNeg := by
  obtain ⟨e, h0, h1⟩ := stx hi hb
  unfold startF
  rw [if_neg (show ¬ (61 : Int32) ≤ stIx ic b by rw [Int32.le_iff_toInt_le, show (61 : Int32).toInt = 61 by decide]; omega), hs _ (by rw [← e, clN h0]; exact h1), e]
theorem by7 (o b : Int32) : 0 ≤ (bytesF o b).toInt := by
  have h : ∀ c : Int32, 0 ≤ (lenOf c).toInt ∧ (lenOf c).toInt ≤ 5 := lenOf_rng
  unfold bytesF
  split
  · split <;> decide
  · split
    · decide
    · split
      · decide
      · have := h (o + 3)
        have e1 : (2 * lenOf 1).toInt = 4 := by decide
        have e2 : (lenOf 2).toInt = 2 := by decide
        have e3 : (2 * lenOf 1 + lenOf (o + 3)).toInt = 4 + (lenOf (o + 3)).toInt := by rw [i32_add (by omega) (by omega), e1]
        rw [i32_add (by omega) (by omega)]
        omega
theorem byS {o b : Int32} (h : o = 0) (q : ¬ wiF b (-128) 127 = 0) : (bytesF o b).toInt = 4 := by unfold bytesF; rw [if_pos h, fit_wi, if_neg q]; decide
theorem byL7 {o b : Int32} (h : o = 0) (q : wiF b (-128) 127 = 0) : (bytesF o b).toInt = 7 := by unfold bytesF; rw [if_pos h, fit_wi, if_pos q]; decide
theorem byJ {o b : Int32} (h : o = 6) : (bytesF o b).toInt = 5 := by subst h; unfold bytesF; rw [if_neg (by decide), if_pos rfl]; decide
theorem byM {o a b : Int32} (h : okI o a b) (c6 : ¬ o = 6) (c : (6 : Int32) ≤ o) : o = 7 ∧ (bytesF o b).toInt = 4 := by
  have e : o = 7 := by
    have h1 := h.1
    have e6 := lv_neT c6 (show (6 : Int32).toInt = 6 by decide)
    rw [Int32.le_iff_toInt_le, show (6 : Int32).toInt = 6 by decide] at c
    exact i32_ext (by rw [show (7 : Int32).toInt = 7 by decide]; omega)
  subst e
  exact ⟨rfl, by unfold bytesF; rw [if_neg (by decide), if_neg (by decide), if_pos rfl]; decide⟩
theorem byA {o a b : Int32} (h : okI o a b) (c0 : ¬ o = 0) (c : ¬ (6 : Int32) ≤ o) : (bytesF o b).toInt = 7 ∧ ¬ o = 7 ∧ ¬ o = 6 := by
  have h1 := h.1
  have e0 := lv_neT c0 (show (0 : Int32).toInt = 0 by decide)
  rw [Int32.le_iff_toInt_le, show (6 : Int32).toInt = 6 by decide] at c
  have n6 : ¬ o = 6 := fun z => c (by rw [z]; decide)
  have n7 : ¬ o = 7 := fun z => c (by rw [z]; decide)
  refine ⟨?_, n7, n6⟩
  have z : ∀ k : Int32, k.toInt = o.toInt → o = k := fun k e => i32_ext e.symm
  unfold bytesF
  rw [if_neg c0, if_neg n6, if_neg n7]
  rcases (show o.toInt = 1 ∨ o.toInt = 2 ∨ o.toInt = 3 ∨ o.toInt = 4 ∨ o.toInt = 5 by omega) with q | q | q | q | q
  · rw [z 1 (by rw [q]; decide)]; decide
  · rw [z 2 (by rw [q]; decide)]; decide
  · rw [z 3 (by rw [q]; decide)]; decide
  · rw [z 4 (by rw [q]; decide)]; decide
  · rw [z 5 (by rw [q]; decide)]; decide

abbrev w_Z_putInstruction : List Cond := .code y_Z_putInstruction b_Z_putInstruction 5 none :: BIG
set_option maxHeartbeats 4000000 in
set_option maxRecDepth 100000 in
theorem c_Z_putInstruction (l : Launch) (D : va_G) (cI cL cO : ClassId) (z0 : Nat) (y1 : Nat) (y2 : Nat) (y3 : Nat) (y4 : Nat) (y5 : Nat) (y6 : Nat) (y7 : Nat) (y8 : Nat) (y9 : Nat) (y10 : Nat) (y11 : Nat) (y12 : Nat) (y13 : Nat) (y14 : Nat) (mn : Fn) (oo : Fn) (oa : Fn) (ob : Fn) (ss : Fn) (gg : Fn) (zz : Fn) (md : Fn) (sd : Fn) (da : Fn) (rg : FL) (pp : FL) (kp : FL) (ot : FL) (th : Int32) (li : Int32) (bl : Int32) (nw : Int32) (wr : Int32) (ru : Int32) (al : Int32) (sp : Int32) (en : Int32) (ke : Int32) (kb : Int32) (at0 : Int32) (fr : va_W) (k : Int32) (x : Int32) (T : Fn) (hmn : ∀ j, j < 24 → 0 ≤ (mn j).toInt ∧ (mn j).toInt ≤ 60) (hk : 0 ≤ k.toInt ∧ k.toInt < 24 ∧ True) (hx1 : vp_in x 1440) (hox : okI (oo x.toNatClampNeg) (oa x.toNatClampNeg) (ob x.toNatClampNeg)) (hsd : ∀ j : Nat, (j : Int) ≤ (mn k.toNatClampNeg).toInt → sd j = T j) (hat : 0 ≤ at0.toInt ∧ at0.toInt + (bytesF (oo x.toNatClampNeg) (ob x.toNatClampNeg)).toInt ≤ 300) : CMv l y_Z_putInstruction w_Z_putInstruction ({ frames := 2, cells := 0, slots := 0, locals := 45 }) D cI cL cO [.ref z0, .int k, .int x] ((wZ cI cL z0 y1 y2 y3 y4 y5 y6 y7 y8 y9 y10 y11 y12 y13 y14 mn oo oa ob ss gg zz md sd da rg pp kp ot th li bl nw wr ru al sp en ke kb at0) ++ fr) (fun u : Fn × Int32 => (vw 300 u.1 k, u.2) = wrI T (mn k.toNatClampNeg) (oo x.toNatClampNeg) (oa x.toNatClampNeg) (ob x.toNatClampNeg) (vw 300 md k, at0) ∧ u.2.toInt = at0.toInt + (bytesF (oo x.toNatClampNeg) (ob x.toNatClampNeg)).toInt ∧ MF k md u.1) (fun u : Fn × Int32 => ((wZ cI cL z0 y1 y2 y3 y4 y5 y6 y7 y8 y9 y10 y11 y12 y13 y14 mn oo oa ob ss gg zz u.1 sd da rg pp kp ot th li bl nw wr ru al sp en ke kb u.2) ++ fr)) 0 0 := by
  refine ofMv (cc := b_Z_putInstruction) (maxL := 5) (ret := none) (by decide) rfl (Nat.le_of_ble_eq_true rfl) ?_
  intro p e s m below meth c A ls H Q hQ hx hb hr hlocks hin hts hown hml hP hK hD hS hA hl
  have hl : lv_has ls 5 [(0, .ref z0), (1, .int k), (2, .int x)] := hl
  have hown : s.vm.findClass R_Z = some m.cls := hown
  have ht : ∀ w ∈ BIG, w.before _ s = true := fun w h => hts w (List.mem_cons_of_mem _ h)
  refine lv_aload_n hx hb d_Z_putInstruction_0 rfl (lv_at hl 0 rfl) ?_
  refine va_get (ci := 5) (v := .ref y2) (C := R_Z) (T := T_Z) (N := 26) hx hb ht in_Z hown hK.1 hP 0 rfl rfl 8 (by decide) (ht _ k_fl_Z_13) (fun _ h9 => h9) rfl d_Z_putInstruction_1 ?_
  refine lv_iload_n hx hb d_Z_putInstruction_4 rfl (lv_at hl 2 rfl) ?_
  refine va_iald hx hb hK.1 hP 2 0 rfl rfl hx1 d_Z_putInstruction_5 ?_
  refine lv_istore_n (lv' := [(3, .int (oo x.toNatClampNeg)), (0, .ref z0), (1, .int k), (2, .int x)]) hx hb d_Z_putInstruction_6 rfl hl (by decide) rfl (fun ls hl => ?_)
  refine lv_iload_n hx hb d_Z_putInstruction_7 rfl (lv_at hl 0 rfl) ?_
  refine lv_if_ne (tgt := 43) hx hb d_Z_putInstruction_8 (by decide) (fun c_8 => ?_) (fun c_8 => ?_)
  · refine lv_iload_n hx hb d_Z_putInstruction_43 rfl (lv_at hl 0 rfl) ?_
    refine lv_if_ne (tgt := 85) hx hb d_Z_putInstruction_44 (by decide) (fun c_44 => ?_) (fun c_44 => ?_)
    · refine lv_iload_n hx hb d_Z_putInstruction_85 rfl (lv_at hl 0 rfl) ?_
      refine lv_bipush (v := 6) hx hb d_Z_putInstruction_86 (by decide) ?_
      refine lv_icmp_ne (tgt := 160) hx hb d_Z_putInstruction_88 (by decide) (fun c_88 => ?_) (fun c_88 => ?_)
      · refine lv_iload_n hx hb d_Z_putInstruction_160 rfl (lv_at hl 0 rfl) ?_
        refine lv_bipush (v := 6) hx hb d_Z_putInstruction_161 (by decide) ?_
        refine lv_icmp_ge (tgt := 178) hx hb d_Z_putInstruction_163 (by decide) (fun c_163 => ?_) (fun c_163 => ?_)
        · refine lv_aload_n hx hb d_Z_putInstruction_178 rfl (lv_at hl 1 rfl) ?_
          refine lv_iload_n hx hb d_Z_putInstruction_179 rfl (lv_at hl 2 rfl) ?_
          refine lv_iconst (v := 1) hx hb d_Z_putInstruction_180 (by decide) ?_
          refine lv_aload_n hx hb d_Z_putInstruction_181 rfl (lv_at hl 1 rfl) ?_
          refine va_get (ci := 5) (v := .ref y4) (C := R_Z) (T := T_Z) (N := 26) hx hb ht in_Z hown hK.1 hP 0 rfl rfl 10 (by decide) (ht _ k_fl_Z_19) (fun _ h9 => h9) rfl d_Z_putInstruction_182 ?_
          refine lv_iload_n hx hb d_Z_putInstruction_185 rfl (lv_at hl 3 rfl) ?_
          refine va_iald hx hb hK.1 hP 4 0 rfl rfl hx1 d_Z_putInstruction_186 ?_
          refine goMv (va_runV (As := [.int k, .int 1, .int (ob x.toNatClampNeg)]) (rest := []) ⟨hx, hb, hml, hown, hts⟩ (c_Z_putTwo l D cI cL cO z0 y1 y2 y3 y4 y5 y6 y7 y8 y9 y10 y11 y12 y13 y14 mn oo oa ob ss gg zz md sd da rg pp kp ot th li bl nw wr ru al sp en ke kb at0 fr k 1 (ob x.toNatClampNeg) hk (by have hB := (byM hox c_88 c_163).2;  omega) H.size) (cwV 3 hts (gBIG (m4 k_ml_Z_85 k_im_Z_putTwo k_sel_Z_putTwo k_ini_Z) k_co_Z_putTwo) rfl rfl rfl (by decide +kernel) ⟨Nat.le_of_ble_eq_true rfl, Nat.le_of_ble_eq_true rfl⟩) ⟨PM.bl, va_recv hK.1 hP (ci := 5) (q0 := 0) rfl rfl, PM.pre hP hD hK⟩ rfl rfl hl.1 rfl (lv_room (Nat.le_of_ble_eq_true rfl)) d_Z_putInstruction_187 ⟨Nat.le_of_ble_eq_true rfl, Nat.le_of_ble_eq_true rfl⟩) hD hS hA (fun u H locs hw hP hD hS => ?_)
          obtain ⟨md_187, at0_187⟩ := u
          have e_187 : (vw 300 md_187 k, at0_187) = wrR 1 (ob x.toNatClampNeg) (vw 300 md k, at0) ∧ at0_187.toInt = at0.toInt + 2 ∧ MF k md md_187 := hw
          have hP : va_P D vwCl ((wZ cI cL z0 y1 y2 y3 y4 y5 y6 y7 y8 y9 y10 y11 y12 y13 y14 mn oo oa ob ss gg zz md_187 sd da rg pp kp ot th li bl nw wr ru al sp en ke kb at0_187) ++ fr) H := hP
          have hD : va_D A ((wZ cI cL z0 y1 y2 y3 y4 y5 y6 y7 y8 y9 y10 y11 y12 y13 y14 mn oo oa ob ss gg zz md_187 sd da rg pp kp ot th li bl nw wr ru al sp en ke kb at0_187) ++ fr) := hD
          refine lv_iload_n hx hb d_Z_putInstruction_190 rfl (lv_at hl 0 rfl) ?_
          refine lv_bipush (v := 6) hx hb d_Z_putInstruction_191 (by decide) ?_
          refine lv_icmp_ge (tgt := 204) hx hb d_Z_putInstruction_193 (by decide) (fun c_193 => ?_) (fun c_193 => ?_)
          · refine lv_aload_n hx hb d_Z_putInstruction_204 rfl (lv_at hl 1 rfl) ?_
            refine lv_iload_n hx hb d_Z_putInstruction_205 rfl (lv_at hl 2 rfl) ?_
            refine lv_iconst (v := 2) hx hb d_Z_putInstruction_206 (by decide) ?_
            refine lv_aload_n hx hb d_Z_putInstruction_207 rfl (lv_at hl 1 rfl) ?_
            refine va_get (ci := 5) (v := .ref y3) (C := R_Z) (T := T_Z) (N := 26) hx hb ht in_Z hown hK.1 hP 0 rfl rfl 9 (by decide) (ht _ k_fl_Z_16) (fun _ h9 => h9) rfl d_Z_putInstruction_208 ?_
            refine lv_iload_n hx hb d_Z_putInstruction_211 rfl (lv_at hl 3 rfl) ?_
            refine va_iald hx hb hK.1 hP 3 0 rfl rfl hx1 d_Z_putInstruction_212 ?_
            refine goMv (va_runV (As := [.int k, .int 2, .int (oa x.toNatClampNeg)]) (rest := []) ⟨hx, hb, hml, hown, hts⟩ (c_Z_putTwo l D cI cL cO z0 y1 y2 y3 y4 y5 y6 y7 y8 y9 y10 y11 y12 y13 y14 mn oo oa ob ss gg zz md_187 sd da rg pp kp ot th li bl nw wr ru al sp en ke kb at0_187 fr k 2 (oa x.toNatClampNeg) hk (by have hB := (byM hox c_88 c_163).2; have := e_187.2.1;  omega) H.size) (cwV 3 hts (gBIG (m4 k_ml_Z_85 k_im_Z_putTwo k_sel_Z_putTwo k_ini_Z) k_co_Z_putTwo) rfl rfl rfl (by decide +kernel) ⟨Nat.le_of_ble_eq_true rfl, Nat.le_of_ble_eq_true rfl⟩) ⟨PM.bl, va_recv hK.1 hP (ci := 5) (q0 := 0) rfl rfl, PM.pre hP hD hK⟩ rfl rfl hl.1 rfl (lv_room (Nat.le_of_ble_eq_true rfl)) d_Z_putInstruction_213 ⟨Nat.le_of_ble_eq_true rfl, Nat.le_of_ble_eq_true rfl⟩) hD hS hA (fun u H locs hw hP hD hS => ?_)
            obtain ⟨md_213, at0_213⟩ := u
            have e_213 : (vw 300 md_213 k, at0_213) = wrR 2 (oa x.toNatClampNeg) (vw 300 md_187 k, at0_187) ∧ at0_213.toInt = at0_187.toInt + 2 ∧ MF k md_187 md_213 := hw
            have hP : va_P D vwCl ((wZ cI cL z0 y1 y2 y3 y4 y5 y6 y7 y8 y9 y10 y11 y12 y13 y14 mn oo oa ob ss gg zz md_213 sd da rg pp kp ot th li bl nw wr ru al sp en ke kb at0_213) ++ fr) H := hP
            have hD : va_D A ((wZ cI cL z0 y1 y2 y3 y4 y5 y6 y7 y8 y9 y10 y11 y12 y13 y14 mn oo oa ob ss gg zz md_213 sd da rg pp kp ot th li bl nw wr ru al sp en ke kb at0_213) ++ fr) := hD
            rw [hQ]; exact retMv (w1 := fun u : Fn × Int32 => ((wZ cI cL z0 y1 y2 y3 y4 y5 y6 y7 y8 y9 y10 y11 y12 y13 y14 mn oo oa ob ss gg zz u.1 sd da rg pp kp ot th li bl nw wr ru al sp en ke kb u.2) ++ fr)) (md_213, at0_213) hx hb hr hlocks hP hD hS ⟨by rw [e_213.1, e_187.1]; simp only [wrI, wrR, wrP, wrB, sb_shr0, if_neg c_8, if_neg c_88, if_pos c_163, if_pos (byM hox c_88 c_163).1], by have hB := (byM hox c_88 c_163).2; have := e_187.2.1; have := e_213.2.1;  omega, ((MF.rf.tr e_187.2.2).tr e_213.2.2)⟩ d_Z_putInstruction_216
          · exact absurd c_163 c_193
        · refine lv_aload_n hx hb d_Z_putInstruction_166 rfl (lv_at hl 1 rfl) ?_
          refine lv_iload_n hx hb d_Z_putInstruction_167 rfl (lv_at hl 2 rfl) ?_
          refine lv_iconst (v := 1) hx hb d_Z_putInstruction_168 (by decide) ?_
          refine lv_aload_n hx hb d_Z_putInstruction_169 rfl (lv_at hl 1 rfl) ?_
          refine va_get (ci := 5) (v := .ref y3) (C := R_Z) (T := T_Z) (N := 26) hx hb ht in_Z hown hK.1 hP 0 rfl rfl 9 (by decide) (ht _ k_fl_Z_16) (fun _ h9 => h9) rfl d_Z_putInstruction_170 ?_
          refine lv_iload_n hx hb d_Z_putInstruction_173 rfl (lv_at hl 3 rfl) ?_
          refine va_iald hx hb hK.1 hP 3 0 rfl rfl hx1 d_Z_putInstruction_174 ?_
          refine goMv (va_runV (As := [.int k, .int 1, .int (oa x.toNatClampNeg)]) (rest := []) ⟨hx, hb, hml, hown, hts⟩ (c_Z_putTwo l D cI cL cO z0 y1 y2 y3 y4 y5 y6 y7 y8 y9 y10 y11 y12 y13 y14 mn oo oa ob ss gg zz md sd da rg pp kp ot th li bl nw wr ru al sp en ke kb at0 fr k 1 (oa x.toNatClampNeg) hk (by have hB := (byA hox c_8 c_163).1;  omega) H.size) (cwV 3 hts (gBIG (m4 k_ml_Z_85 k_im_Z_putTwo k_sel_Z_putTwo k_ini_Z) k_co_Z_putTwo) rfl rfl rfl (by decide +kernel) ⟨Nat.le_of_ble_eq_true rfl, Nat.le_of_ble_eq_true rfl⟩) ⟨PM.bl, va_recv hK.1 hP (ci := 5) (q0 := 0) rfl rfl, PM.pre hP hD hK⟩ rfl rfl hl.1 rfl (lv_room (Nat.le_of_ble_eq_true rfl)) d_Z_putInstruction_175 ⟨Nat.le_of_ble_eq_true rfl, Nat.le_of_ble_eq_true rfl⟩) hD hS hA (fun u H locs hw hP hD hS => ?_)
          obtain ⟨md_175, at0_175⟩ := u
          have e_175 : (vw 300 md_175 k, at0_175) = wrR 1 (oa x.toNatClampNeg) (vw 300 md k, at0) ∧ at0_175.toInt = at0.toInt + 2 ∧ MF k md md_175 := hw
          have hP : va_P D vwCl ((wZ cI cL z0 y1 y2 y3 y4 y5 y6 y7 y8 y9 y10 y11 y12 y13 y14 mn oo oa ob ss gg zz md_175 sd da rg pp kp ot th li bl nw wr ru al sp en ke kb at0_175) ++ fr) H := hP
          have hD : va_D A ((wZ cI cL z0 y1 y2 y3 y4 y5 y6 y7 y8 y9 y10 y11 y12 y13 y14 mn oo oa ob ss gg zz md_175 sd da rg pp kp ot th li bl nw wr ru al sp en ke kb at0_175) ++ fr) := hD
          refine lv_aload_n hx hb d_Z_putInstruction_178 rfl (lv_at hl 1 rfl) ?_
          refine lv_iload_n hx hb d_Z_putInstruction_179 rfl (lv_at hl 2 rfl) ?_
          refine lv_iconst (v := 1) hx hb d_Z_putInstruction_180 (by decide) ?_
          refine lv_aload_n hx hb d_Z_putInstruction_181 rfl (lv_at hl 1 rfl) ?_
          refine va_get (ci := 5) (v := .ref y4) (C := R_Z) (T := T_Z) (N := 26) hx hb ht in_Z hown hK.1 hP 0 rfl rfl 10 (by decide) (ht _ k_fl_Z_19) (fun _ h9 => h9) rfl d_Z_putInstruction_182 ?_
          refine lv_iload_n hx hb d_Z_putInstruction_185 rfl (lv_at hl 3 rfl) ?_
          refine va_iald hx hb hK.1 hP 4 0 rfl rfl hx1 d_Z_putInstruction_186 ?_
          refine goMv (va_runV (As := [.int k, .int 1, .int (ob x.toNatClampNeg)]) (rest := []) ⟨hx, hb, hml, hown, hts⟩ (c_Z_putTwo l D cI cL cO z0 y1 y2 y3 y4 y5 y6 y7 y8 y9 y10 y11 y12 y13 y14 mn oo oa ob ss gg zz md_175 sd da rg pp kp ot th li bl nw wr ru al sp en ke kb at0_175 fr k 1 (ob x.toNatClampNeg) hk (by have hB := (byA hox c_8 c_163).1; have := e_175.2.1;  omega) H.size) (cwV 3 hts (gBIG (m4 k_ml_Z_85 k_im_Z_putTwo k_sel_Z_putTwo k_ini_Z) k_co_Z_putTwo) rfl rfl rfl (by decide +kernel) ⟨Nat.le_of_ble_eq_true rfl, Nat.le_of_ble_eq_true rfl⟩) ⟨PM.bl, va_recv hK.1 hP (ci := 5) (q0 := 0) rfl rfl, PM.pre hP hD hK⟩ rfl rfl hl.1 rfl (lv_room (Nat.le_of_ble_eq_true rfl)) d_Z_putInstruction_187 ⟨Nat.le_of_ble_eq_true rfl, Nat.le_of_ble_eq_true rfl⟩) hD hS hA (fun u H locs hw hP hD hS => ?_)
          obtain ⟨md_187, at0_187⟩ := u
          have e_187 : (vw 300 md_187 k, at0_187) = wrR 1 (ob x.toNatClampNeg) (vw 300 md_175 k, at0_175) ∧ at0_187.toInt = at0_175.toInt + 2 ∧ MF k md_175 md_187 := hw
          have hP : va_P D vwCl ((wZ cI cL z0 y1 y2 y3 y4 y5 y6 y7 y8 y9 y10 y11 y12 y13 y14 mn oo oa ob ss gg zz md_187 sd da rg pp kp ot th li bl nw wr ru al sp en ke kb at0_187) ++ fr) H := hP
          have hD : va_D A ((wZ cI cL z0 y1 y2 y3 y4 y5 y6 y7 y8 y9 y10 y11 y12 y13 y14 mn oo oa ob ss gg zz md_187 sd da rg pp kp ot th li bl nw wr ru al sp en ke kb at0_187) ++ fr) := hD
          refine lv_iload_n hx hb d_Z_putInstruction_190 rfl (lv_at hl 0 rfl) ?_
          refine lv_bipush (v := 6) hx hb d_Z_putInstruction_191 (by decide) ?_
          refine lv_icmp_ge (tgt := 204) hx hb d_Z_putInstruction_193 (by decide) (fun c_193 => ?_) (fun c_193 => ?_)
          · exact absurd c_193 c_163
          · refine lv_aload_n hx hb d_Z_putInstruction_196 rfl (lv_at hl 1 rfl) ?_
            refine lv_iload_n hx hb d_Z_putInstruction_197 rfl (lv_at hl 2 rfl) ?_
            refine lv_iload_n hx hb d_Z_putInstruction_198 rfl (lv_at hl 0 rfl) ?_
            refine lv_iconst (v := 3) hx hb d_Z_putInstruction_199 (by decide) ?_
            refine lv_iadd hx hb d_Z_putInstruction_200 ?_
            refine goMv (va_runV (As := [.int k, .int ((oo x.toNatClampNeg) + 3)]) (rest := []) ⟨hx, hb, hml, hown, hts⟩ (c_Z_put l D cI cL cO z0 y1 y2 y3 y4 y5 y6 y7 y8 y9 y10 y11 y12 y13 y14 mn oo oa ob ss gg zz md_187 sd da rg pp kp ot th li bl nw wr ru al sp en ke kb at0_187 fr k ((oo x.toNatClampNeg) + 3) hk (by have hB := (byA hox c_8 c_163).1; have := e_175.2.1; have := e_187.2.1;  omega) H.size) (cwV 2 hts (gBIG (m4 k_ml_Z_81 k_im_Z_put k_sel_Z_put k_ini_Z) k_co_Z_put) rfl rfl rfl (by decide +kernel) ⟨Nat.le_of_ble_eq_true rfl, Nat.le_of_ble_eq_true rfl⟩) ⟨PM.bl, va_recv hK.1 hP (ci := 5) (q0 := 0) rfl rfl, PM.pre hP hD hK⟩ rfl rfl hl.1 rfl (lv_room (Nat.le_of_ble_eq_true rfl)) d_Z_putInstruction_201 ⟨Nat.le_of_ble_eq_true rfl, Nat.le_of_ble_eq_true rfl⟩) hD hS hA (fun u H locs hw hP hD hS => ?_)
            obtain ⟨md_201, at0_201⟩ := u
            have e_201 : (vw 300 md_201 k, at0_201) = apF ((oo x.toNatClampNeg) + 3) (vw 300 md_187 k, at0_187) ∧ at0_201.toInt = at0_187.toInt + 1 ∧ MF k md_187 md_201 := hw
            have hP : va_P D vwCl ((wZ cI cL z0 y1 y2 y3 y4 y5 y6 y7 y8 y9 y10 y11 y12 y13 y14 mn oo oa ob ss gg zz md_201 sd da rg pp kp ot th li bl nw wr ru al sp en ke kb at0_201) ++ fr) H := hP
            have hD : va_D A ((wZ cI cL z0 y1 y2 y3 y4 y5 y6 y7 y8 y9 y10 y11 y12 y13 y14 mn oo oa ob ss gg zz md_201 sd da rg pp kp ot th li bl nw wr ru al sp en ke kb at0_201) ++ fr) := hD
            refine lv_aload_n hx hb d_Z_putInstruction_204 rfl (lv_at hl 1 rfl) ?_
            refine lv_iload_n hx hb d_Z_putInstruction_205 rfl (lv_at hl 2 rfl) ?_
            refine lv_iconst (v := 2) hx hb d_Z_putInstruction_206 (by decide) ?_
            refine lv_aload_n hx hb d_Z_putInstruction_207 rfl (lv_at hl 1 rfl) ?_
            refine va_get (ci := 5) (v := .ref y3) (C := R_Z) (T := T_Z) (N := 26) hx hb ht in_Z hown hK.1 hP 0 rfl rfl 9 (by decide) (ht _ k_fl_Z_16) (fun _ h9 => h9) rfl d_Z_putInstruction_208 ?_
            refine lv_iload_n hx hb d_Z_putInstruction_211 rfl (lv_at hl 3 rfl) ?_
            refine va_iald hx hb hK.1 hP 3 0 rfl rfl hx1 d_Z_putInstruction_212 ?_
            refine goMv (va_runV (As := [.int k, .int 2, .int (oa x.toNatClampNeg)]) (rest := []) ⟨hx, hb, hml, hown, hts⟩ (c_Z_putTwo l D cI cL cO z0 y1 y2 y3 y4 y5 y6 y7 y8 y9 y10 y11 y12 y13 y14 mn oo oa ob ss gg zz md_201 sd da rg pp kp ot th li bl nw wr ru al sp en ke kb at0_201 fr k 2 (oa x.toNatClampNeg) hk (by have hB := (byA hox c_8 c_163).1; have := e_175.2.1; have := e_187.2.1; have := e_201.2.1;  omega) H.size) (cwV 3 hts (gBIG (m4 k_ml_Z_85 k_im_Z_putTwo k_sel_Z_putTwo k_ini_Z) k_co_Z_putTwo) rfl rfl rfl (by decide +kernel) ⟨Nat.le_of_ble_eq_true rfl, Nat.le_of_ble_eq_true rfl⟩) ⟨PM.bl, va_recv hK.1 hP (ci := 5) (q0 := 0) rfl rfl, PM.pre hP hD hK⟩ rfl rfl hl.1 rfl (lv_room (Nat.le_of_ble_eq_true rfl)) d_Z_putInstruction_213 ⟨Nat.le_of_ble_eq_true rfl, Nat.le_of_ble_eq_true rfl⟩) hD hS hA (fun u H locs hw hP hD hS => ?_)
            obtain ⟨md_213, at0_213⟩ := u
            have e_213 : (vw 300 md_213 k, at0_213) = wrR 2 (oa x.toNatClampNeg) (vw 300 md_201 k, at0_201) ∧ at0_213.toInt = at0_201.toInt + 2 ∧ MF k md_201 md_213 := hw
            have hP : va_P D vwCl ((wZ cI cL z0 y1 y2 y3 y4 y5 y6 y7 y8 y9 y10 y11 y12 y13 y14 mn oo oa ob ss gg zz md_213 sd da rg pp kp ot th li bl nw wr ru al sp en ke kb at0_213) ++ fr) H := hP
            have hD : va_D A ((wZ cI cL z0 y1 y2 y3 y4 y5 y6 y7 y8 y9 y10 y11 y12 y13 y14 mn oo oa ob ss gg zz md_213 sd da rg pp kp ot th li bl nw wr ru al sp en ke kb at0_213) ++ fr) := hD
            rw [hQ]; exact retMv (w1 := fun u : Fn × Int32 => ((wZ cI cL z0 y1 y2 y3 y4 y5 y6 y7 y8 y9 y10 y11 y12 y13 y14 mn oo oa ob ss gg zz u.1 sd da rg pp kp ot th li bl nw wr ru al sp en ke kb u.2) ++ fr)) (md_213, at0_213) hx hb hr hlocks hP hD hS ⟨by rw [e_213.1, e_201.1, e_187.1, e_175.1]; simp only [wrI, wrR, wrP, wrB, sb_shr0, if_neg c_8, if_neg c_88, if_neg c_163, if_neg (byA hox c_8 c_163).2.1], by have hB := (byA hox c_8 c_163).1; have := e_175.2.1; have := e_187.2.1; have := e_201.2.1; have := e_213.2.1;  omega, ((((MF.rf.tr e_175.2.2).tr e_187.2.2).tr e_201.2.2).tr e_213.2.2)⟩ d_Z_putInstruction_216
      · refine lv_aload_n hx hb d_Z_putInstruction_91 rfl (lv_at hl 1 rfl) ?_
        refine va_get (ci := 5) (v := .ref y9) (C := R_Z) (T := T_Z) (N := 26) hx hb ht in_Z hown hK.1 hP 0 rfl rfl 15 (by decide) (ht _ k_fl_Z_34) (fun _ h9 => h9) rfl d_Z_putInstruction_92 ?_
        refine lv_aload_n hx hb d_Z_putInstruction_95 rfl (lv_at hl 1 rfl) ?_
        refine va_get (ci := 5) (v := .ref y4) (C := R_Z) (T := T_Z) (N := 26) hx hb ht in_Z hown hK.1 hP 0 rfl rfl 10 (by decide) (ht _ k_fl_Z_19) (fun _ h9 => h9) rfl d_Z_putInstruction_96 ?_
        refine lv_iload_n hx hb d_Z_putInstruction_99 rfl (lv_at hl 3 rfl) ?_
        refine va_iald hx hb hK.1 hP 4 0 rfl rfl hx1 d_Z_putInstruction_100 ?_
        refine lv_aload_n hx hb d_Z_putInstruction_101 rfl (lv_at hl 1 rfl) ?_
        refine va_get (ci := 5) (v := .ref y1) (C := R_Z) (T := T_Z) (N := 26) hx hb ht in_Z hown hK.1 hP 0 rfl rfl 7 (by decide) (ht _ k_fl_Z_7) (fun _ h9 => h9) rfl d_Z_putInstruction_102 ?_
        refine lv_iload_n hx hb d_Z_putInstruction_105 rfl (lv_at hl 2 rfl) ?_
        refine va_iald hx hb hK.1 hP 1 0 rfl rfl (in_k hk) d_Z_putInstruction_106 ?_
        refine lv_icmp_ge (tgt := 119) hx hb d_Z_putInstruction_107 (by decide) (fun c_107 => ?_) (fun c_107 => ?_)
        · refine lv_aload_n hx hb d_Z_putInstruction_119 rfl (lv_at hl 1 rfl) ?_
          refine va_get (ci := 5) (v := .ref y1) (C := R_Z) (T := T_Z) (N := 26) hx hb ht in_Z hown hK.1 hP 0 rfl rfl 7 (by decide) (ht _ k_fl_Z_7) (fun _ h9 => h9) rfl d_Z_putInstruction_120 ?_
          refine lv_iload_n hx hb d_Z_putInstruction_123 rfl (lv_at hl 2 rfl) ?_
          refine va_iald hx hb hK.1 hP 1 0 rfl rfl (in_k hk) d_Z_putInstruction_124 ?_
          refine va_iald hx hb hK.1 hP 9 0 rfl rfl (in61 (hmn _ (kc hk)).1 (hmn _ (kc hk)).2) d_Z_putInstruction_125 ?_
          refine lv_istore (lv' := [(4, .int (sd (mn k.toNatClampNeg).toNatClampNeg)), (3, .int (oo x.toNatClampNeg)), (0, .ref z0), (1, .int k), (2, .int x)]) hx hb d_Z_putInstruction_126 hl (by decide) rfl (fun ls hl => ?_)
          refine lv_aload_n hx hb d_Z_putInstruction_128 rfl (lv_at hl 2 rfl) ?_
          refine lv_iload_n hx hb d_Z_putInstruction_129 rfl (lv_at hl 3 rfl) ?_
          refine lv_iconst (v := 1) hx hb d_Z_putInstruction_130 (by decide) ?_
          refine lv_aload_n hx hb d_Z_putInstruction_131 rfl (lv_at hl 2 rfl) ?_
          refine va_get (ci := 5) (v := .ref y3) (C := R_Z) (T := T_Z) (N := 26) hx hb ht in_Z hown hK.1 hP 0 rfl rfl 9 (by decide) (ht _ k_fl_Z_16) (fun _ h9 => h9) rfl d_Z_putInstruction_132 ?_
          refine lv_iload_n hx hb d_Z_putInstruction_135 rfl (lv_at hl 4 rfl) ?_
          refine va_iald hx hb hK.1 hP 3 0 rfl rfl hx1 d_Z_putInstruction_136 ?_
          refine goMv (va_runV (As := [.int k, .int 1, .int (oa x.toNatClampNeg)]) (rest := []) ⟨hx, hb, hml, hown, hts⟩ (c_Z_putTwo l D cI cL cO z0 y1 y2 y3 y4 y5 y6 y7 y8 y9 y10 y11 y12 y13 y14 mn oo oa ob ss gg zz md sd da rg pp kp ot th li bl nw wr ru al sp en ke kb at0 fr k 1 (oa x.toNatClampNeg) hk (by have hB := byJ (b := ob x.toNatClampNeg) c_88;  omega) H.size) (cwV 3 hts (gBIG (m4 k_ml_Z_85 k_im_Z_putTwo k_sel_Z_putTwo k_ini_Z) k_co_Z_putTwo) rfl rfl rfl (by decide +kernel) ⟨Nat.le_of_ble_eq_true rfl, Nat.le_of_ble_eq_true rfl⟩) ⟨PM.bl, va_recv hK.1 hP (ci := 5) (q0 := 0) rfl rfl, PM.pre hP hD hK⟩ rfl rfl hl.1 rfl (lv_room (Nat.le_of_ble_eq_true rfl)) d_Z_putInstruction_137 ⟨Nat.le_of_ble_eq_true rfl, Nat.le_of_ble_eq_true rfl⟩) hD hS hA (fun u H locs hw hP hD hS => ?_)
          obtain ⟨md_137, at0_137⟩ := u
          have e_137 : (vw 300 md_137 k, at0_137) = wrR 1 (oa x.toNatClampNeg) (vw 300 md k, at0) ∧ at0_137.toInt = at0.toInt + 2 ∧ MF k md md_137 := hw
          have hP : va_P D vwCl ((wZ cI cL z0 y1 y2 y3 y4 y5 y6 y7 y8 y9 y10 y11 y12 y13 y14 mn oo oa ob ss gg zz md_137 sd da rg pp kp ot th li bl nw wr ru al sp en ke kb at0_137) ++ fr) H := hP
          have hD : va_D A ((wZ cI cL z0 y1 y2 y3 y4 y5 y6 y7 y8 y9 y10 y11 y12 y13 y14 mn oo oa ob ss gg zz md_137 sd da rg pp kp ot th li bl nw wr ru al sp en ke kb at0_137) ++ fr) := hD
          refine lv_aload_n hx hb d_Z_putInstruction_140 rfl (lv_at hl 2 rfl) ?_
          refine lv_iload_n hx hb d_Z_putInstruction_141 rfl (lv_at hl 3 rfl) ?_
          refine lv_bipush (v := 9) hx hb d_Z_putInstruction_142 (by decide) ?_
          refine lv_iload hx hb d_Z_putInstruction_144 (lv_at hl 0 rfl) ?_
          refine lv_bipush (v := 8) hx hb d_Z_putInstruction_146 (by decide) ?_
          refine lv_ishr hx hb d_Z_putInstruction_148 ?_
          refine goMv (va_runV (As := [.int k, .int 9, .int ((sd (mn k.toNatClampNeg).toNatClampNeg) >>> ((8 : Int32) &&& 31))]) (rest := []) ⟨hx, hb, hml, hown, hts⟩ (c_Z_putTwo l D cI cL cO z0 y1 y2 y3 y4 y5 y6 y7 y8 y9 y10 y11 y12 y13 y14 mn oo oa ob ss gg zz md_137 sd da rg pp kp ot th li bl nw wr ru al sp en ke kb at0_137 fr k 9 ((sd (mn k.toNatClampNeg).toNatClampNeg) >>> ((8 : Int32) &&& 31)) hk (by have hB := byJ (b := ob x.toNatClampNeg) c_88; have := e_137.2.1;  omega) H.size) (cwV 3 hts (gBIG (m4 k_ml_Z_85 k_im_Z_putTwo k_sel_Z_putTwo k_ini_Z) k_co_Z_putTwo) rfl rfl rfl (by decide +kernel) ⟨Nat.le_of_ble_eq_true rfl, Nat.le_of_ble_eq_true rfl⟩) ⟨PM.bl, va_recv hK.1 hP (ci := 5) (q0 := 0) rfl rfl, PM.pre hP hD hK⟩ rfl rfl hl.1 rfl (lv_room (Nat.le_of_ble_eq_true rfl)) d_Z_putInstruction_149 ⟨Nat.le_of_ble_eq_true rfl, Nat.le_of_ble_eq_true rfl⟩) hD hS hA (fun u H locs hw hP hD hS => ?_)
          obtain ⟨md_149, at0_149⟩ := u
          have e_149 : (vw 300 md_149 k, at0_149) = wrR 9 ((sd (mn k.toNatClampNeg).toNatClampNeg) >>> ((8 : Int32) &&& 31)) (vw 300 md_137 k, at0_137) ∧ at0_149.toInt = at0_137.toInt + 2 ∧ MF k md_137 md_149 := hw
          have hP : va_P D vwCl ((wZ cI cL z0 y1 y2 y3 y4 y5 y6 y7 y8 y9 y10 y11 y12 y13 y14 mn oo oa ob ss gg zz md_149 sd da rg pp kp ot th li bl nw wr ru al sp en ke kb at0_149) ++ fr) H := hP
          have hD : va_D A ((wZ cI cL z0 y1 y2 y3 y4 y5 y6 y7 y8 y9 y10 y11 y12 y13 y14 mn oo oa ob ss gg zz md_149 sd da rg pp kp ot th li bl nw wr ru al sp en ke kb at0_149) ++ fr) := hD
          refine lv_aload_n hx hb d_Z_putInstruction_152 rfl (lv_at hl 2 rfl) ?_
          refine lv_iload_n hx hb d_Z_putInstruction_153 rfl (lv_at hl 3 rfl) ?_
          refine lv_iload hx hb d_Z_putInstruction_154 (lv_at hl 0 rfl) ?_
          refine goMv (va_runV (As := [.int k, .int (sd (mn k.toNatClampNeg).toNatClampNeg)]) (rest := []) ⟨hx, hb, hml, hown, hts⟩ (c_Z_put l D cI cL cO z0 y1 y2 y3 y4 y5 y6 y7 y8 y9 y10 y11 y12 y13 y14 mn oo oa ob ss gg zz md_149 sd da rg pp kp ot th li bl nw wr ru al sp en ke kb at0_149 fr k (sd (mn k.toNatClampNeg).toNatClampNeg) hk (by have hB := byJ (b := ob x.toNatClampNeg) c_88; have := e_137.2.1; have := e_149.2.1;  omega) H.size) (cwV 2 hts (gBIG (m4 k_ml_Z_81 k_im_Z_put k_sel_Z_put k_ini_Z) k_co_Z_put) rfl rfl rfl (by decide +kernel) ⟨Nat.le_of_ble_eq_true rfl, Nat.le_of_ble_eq_true rfl⟩) ⟨PM.bl, va_recv hK.1 hP (ci := 5) (q0 := 0) rfl rfl, PM.pre hP hD hK⟩ rfl rfl hl.1 rfl (lv_room (Nat.le_of_ble_eq_true rfl)) d_Z_putInstruction_156 ⟨Nat.le_of_ble_eq_true rfl, Nat.le_of_ble_eq_true rfl⟩) hD hS hA (fun u H locs hw hP hD hS => ?_)
          obtain ⟨md_156, at0_156⟩ := u
          have e_156 : (vw 300 md_156 k, at0_156) = apF (sd (mn k.toNatClampNeg).toNatClampNeg) (vw 300 md_149 k, at0_149) ∧ at0_156.toInt = at0_149.toInt + 1 ∧ MF k md_149 md_156 := hw
          have hP : va_P D vwCl ((wZ cI cL z0 y1 y2 y3 y4 y5 y6 y7 y8 y9 y10 y11 y12 y13 y14 mn oo oa ob ss gg zz md_156 sd da rg pp kp ot th li bl nw wr ru al sp en ke kb at0_156) ++ fr) H := hP
          have hD : va_D A ((wZ cI cL z0 y1 y2 y3 y4 y5 y6 y7 y8 y9 y10 y11 y12 y13 y14 mn oo oa ob ss gg zz md_156 sd da rg pp kp ot th li bl nw wr ru al sp en ke kb at0_156) ++ fr) := hD
          rw [hQ]; exact retMv (w1 := fun u : Fn × Int32 => ((wZ cI cL z0 y1 y2 y3 y4 y5 y6 y7 y8 y9 y10 y11 y12 y13 y14 mn oo oa ob ss gg zz u.1 sd da rg pp kp ot th li bl nw wr ru al sp en ke kb u.2) ++ fr)) (md_156, at0_156) hx hb hr hlocks hP hD hS ⟨by rw [e_156.1, e_149.1, e_137.1]; simp only [wrI, wrR, wrP, wrB, sb_shr0, if_neg c_8, if_pos c_88, if_pos c_107, stS (hmn _ (kc hk)) (okI.j hox c_88).1 hsd, if_neg (show ¬ oo x.toNatClampNeg = 0 by rw [c_88]; decide)], by have hB := byJ (b := ob x.toNatClampNeg) c_88; have := e_137.2.1; have := e_149.2.1; have := e_156.2.1;  omega, (((MF.rf.tr e_137.2.2).tr e_149.2.2).tr e_156.2.2)⟩ d_Z_putInstruction_159
        · refine lv_aload_n hx hb d_Z_putInstruction_110 rfl (lv_at hl 1 rfl) ?_
          refine va_get (ci := 5) (v := .ref y4) (C := R_Z) (T := T_Z) (N := 26) hx hb ht in_Z hown hK.1 hP 0 rfl rfl 10 (by decide) (ht _ k_fl_Z_19) (fun _ h9 => h9) rfl d_Z_putInstruction_111 ?_
          refine lv_iload_n hx hb d_Z_putInstruction_114 rfl (lv_at hl 3 rfl) ?_
          refine va_iald hx hb hK.1 hP 4 0 rfl rfl hx1 d_Z_putInstruction_115 ?_
          refine lv_goto (tgt := 125) hx hb d_Z_putInstruction_116 (by decide) ?_
          refine va_iald hx hb hK.1 hP 9 0 rfl rfl (in61 (okI.j hox c_88).1 (by have := i_lt c_107; have := (hmn _ (kc hk)).2; omega)) d_Z_putInstruction_125 ?_
          refine lv_istore (lv' := [(4, .int (sd (ob x.toNatClampNeg).toNatClampNeg)), (3, .int (oo x.toNatClampNeg)), (0, .ref z0), (1, .int k), (2, .int x)]) hx hb d_Z_putInstruction_126 hl (by decide) rfl (fun ls hl => ?_)
          refine lv_aload_n hx hb d_Z_putInstruction_128 rfl (lv_at hl 2 rfl) ?_
          refine lv_iload_n hx hb d_Z_putInstruction_129 rfl (lv_at hl 3 rfl) ?_
          refine lv_iconst (v := 1) hx hb d_Z_putInstruction_130 (by decide) ?_
          refine lv_aload_n hx hb d_Z_putInstruction_131 rfl (lv_at hl 2 rfl) ?_
          refine va_get (ci := 5) (v := .ref y3) (C := R_Z) (T := T_Z) (N := 26) hx hb ht in_Z hown hK.1 hP 0 rfl rfl 9 (by decide) (ht _ k_fl_Z_16) (fun _ h9 => h9) rfl d_Z_putInstruction_132 ?_
          refine lv_iload_n hx hb d_Z_putInstruction_135 rfl (lv_at hl 4 rfl) ?_
          refine va_iald hx hb hK.1 hP 3 0 rfl rfl hx1 d_Z_putInstruction_136 ?_
          refine goMv (va_runV (As := [.int k, .int 1, .int (oa x.toNatClampNeg)]) (rest := []) ⟨hx, hb, hml, hown, hts⟩ (c_Z_putTwo l D cI cL cO z0 y1 y2 y3 y4 y5 y6 y7 y8 y9 y10 y11 y12 y13 y14 mn oo oa ob ss gg zz md sd da rg pp kp ot th li bl nw wr ru al sp en ke kb at0 fr k 1 (oa x.toNatClampNeg) hk (by have hB := byJ (b := ob x.toNatClampNeg) c_88;  omega) H.size) (cwV 3 hts (gBIG (m4 k_ml_Z_85 k_im_Z_putTwo k_sel_Z_putTwo k_ini_Z) k_co_Z_putTwo) rfl rfl rfl (by decide +kernel) ⟨Nat.le_of_ble_eq_true rfl, Nat.le_of_ble_eq_true rfl⟩) ⟨PM.bl, va_recv hK.1 hP (ci := 5) (q0 := 0) rfl rfl, PM.pre hP hD hK⟩ rfl rfl hl.1 rfl (lv_room (Nat.le_of_ble_eq_true rfl)) d_Z_putInstruction_137 ⟨Nat.le_of_ble_eq_true rfl, Nat.le_of_ble_eq_true rfl⟩) hD hS hA (fun u H locs hw hP hD hS => ?_)
          obtain ⟨md_137, at0_137⟩ := u
          have e_137 : (vw 300 md_137 k, at0_137) = wrR 1 (oa x.toNatClampNeg) (vw 300 md k, at0) ∧ at0_137.toInt = at0.toInt + 2 ∧ MF k md md_137 := hw
          have hP : va_P D vwCl ((wZ cI cL z0 y1 y2 y3 y4 y5 y6 y7 y8 y9 y10 y11 y12 y13 y14 mn oo oa ob ss gg zz md_137 sd da rg pp kp ot th li bl nw wr ru al sp en ke kb at0_137) ++ fr) H := hP
          have hD : va_D A ((wZ cI cL z0 y1 y2 y3 y4 y5 y6 y7 y8 y9 y10 y11 y12 y13 y14 mn oo oa ob ss gg zz md_137 sd da rg pp kp ot th li bl nw wr ru al sp en ke kb at0_137) ++ fr) := hD
          refine lv_aload_n hx hb d_Z_putInstruction_140 rfl (lv_at hl 2 rfl) ?_
          refine lv_iload_n hx hb d_Z_putInstruction_141 rfl (lv_at hl 3 rfl) ?_
          refine lv_bipush (v := 9) hx hb d_Z_putInstruction_142 (by decide) ?_
          refine lv_iload hx hb d_Z_putInstruction_144 (lv_at hl 0 rfl) ?_
          refine lv_bipush (v := 8) hx hb d_Z_putInstruction_146 (by decide) ?_
          refine lv_ishr hx hb d_Z_putInstruction_148 ?_
          refine goMv (va_runV (As := [.int k, .int 9, .int ((sd (ob x.toNatClampNeg).toNatClampNeg) >>> ((8 : Int32) &&& 31))]) (rest := []) ⟨hx, hb, hml, hown, hts⟩ (c_Z_putTwo l D cI cL cO z0 y1 y2 y3 y4 y5 y6 y7 y8 y9 y10 y11 y12 y13 y14 mn oo oa ob ss gg zz md_137 sd da rg pp kp ot th li bl nw wr ru al sp en ke kb at0_137 fr k 9 ((sd (ob x.toNatClampNeg).toNatClampNeg) >>> ((8 : Int32) &&& 31)) hk (by have hB := byJ (b := ob x.toNatClampNeg) c_88; have := e_137.2.1;  omega) H.size) (cwV 3 hts (gBIG (m4 k_ml_Z_85 k_im_Z_putTwo k_sel_Z_putTwo k_ini_Z) k_co_Z_putTwo) rfl rfl rfl (by decide +kernel) ⟨Nat.le_of_ble_eq_true rfl, Nat.le_of_ble_eq_true rfl⟩) ⟨PM.bl, va_recv hK.1 hP (ci := 5) (q0 := 0) rfl rfl, PM.pre hP hD hK⟩ rfl rfl hl.1 rfl (lv_room (Nat.le_of_ble_eq_true rfl)) d_Z_putInstruction_149 ⟨Nat.le_of_ble_eq_true rfl, Nat.le_of_ble_eq_true rfl⟩) hD hS hA (fun u H locs hw hP hD hS => ?_)
          obtain ⟨md_149, at0_149⟩ := u
          have e_149 : (vw 300 md_149 k, at0_149) = wrR 9 ((sd (ob x.toNatClampNeg).toNatClampNeg) >>> ((8 : Int32) &&& 31)) (vw 300 md_137 k, at0_137) ∧ at0_149.toInt = at0_137.toInt + 2 ∧ MF k md_137 md_149 := hw
          have hP : va_P D vwCl ((wZ cI cL z0 y1 y2 y3 y4 y5 y6 y7 y8 y9 y10 y11 y12 y13 y14 mn oo oa ob ss gg zz md_149 sd da rg pp kp ot th li bl nw wr ru al sp en ke kb at0_149) ++ fr) H := hP
          have hD : va_D A ((wZ cI cL z0 y1 y2 y3 y4 y5 y6 y7 y8 y9 y10 y11 y12 y13 y14 mn oo oa ob ss gg zz md_149 sd da rg pp kp ot th li bl nw wr ru al sp en ke kb at0_149) ++ fr) := hD
          refine lv_aload_n hx hb d_Z_putInstruction_152 rfl (lv_at hl 2 rfl) ?_
          refine lv_iload_n hx hb d_Z_putInstruction_153 rfl (lv_at hl 3 rfl) ?_
          refine lv_iload hx hb d_Z_putInstruction_154 (lv_at hl 0 rfl) ?_
          refine goMv (va_runV (As := [.int k, .int (sd (ob x.toNatClampNeg).toNatClampNeg)]) (rest := []) ⟨hx, hb, hml, hown, hts⟩ (c_Z_put l D cI cL cO z0 y1 y2 y3 y4 y5 y6 y7 y8 y9 y10 y11 y12 y13 y14 mn oo oa ob ss gg zz md_149 sd da rg pp kp ot th li bl nw wr ru al sp en ke kb at0_149 fr k (sd (ob x.toNatClampNeg).toNatClampNeg) hk (by have hB := byJ (b := ob x.toNatClampNeg) c_88; have := e_137.2.1; have := e_149.2.1;  omega) H.size) (cwV 2 hts (gBIG (m4 k_ml_Z_81 k_im_Z_put k_sel_Z_put k_ini_Z) k_co_Z_put) rfl rfl rfl (by decide +kernel) ⟨Nat.le_of_ble_eq_true rfl, Nat.le_of_ble_eq_true rfl⟩) ⟨PM.bl, va_recv hK.1 hP (ci := 5) (q0 := 0) rfl rfl, PM.pre hP hD hK⟩ rfl rfl hl.1 rfl (lv_room (Nat.le_of_ble_eq_true rfl)) d_Z_putInstruction_156 ⟨Nat.le_of_ble_eq_true rfl, Nat.le_of_ble_eq_true rfl⟩) hD hS hA (fun u H locs hw hP hD hS => ?_)
          obtain ⟨md_156, at0_156⟩ := u
          have e_156 : (vw 300 md_156 k, at0_156) = apF (sd (ob x.toNatClampNeg).toNatClampNeg) (vw 300 md_149 k, at0_149) ∧ at0_156.toInt = at0_149.toInt + 1 ∧ MF k md_149 md_156 := hw
          have hP : va_P D vwCl ((wZ cI cL z0 y1 y2 y3 y4 y5 y6 y7 y8 y9 y10 y11 y12 y13 y14 mn oo oa ob ss gg zz md_156 sd da rg pp kp ot th li bl nw wr ru al sp en ke kb at0_156) ++ fr) H := hP
          have hD : va_D A ((wZ cI cL z0 y1 y2 y3 y4 y5 y6 y7 y8 y9 y10 y11 y12 y13 y14 mn oo oa ob ss gg zz md_156 sd da rg pp kp ot th li bl nw wr ru al sp en ke kb at0_156) ++ fr) := hD
          rw [hQ]; exact retMv (w1 := fun u : Fn × Int32 => ((wZ cI cL z0 y1 y2 y3 y4 y5 y6 y7 y8 y9 y10 y11 y12 y13 y14 mn oo oa ob ss gg zz u.1 sd da rg pp kp ot th li bl nw wr ru al sp en ke kb u.2) ++ fr)) (md_156, at0_156) hx hb hr hlocks hP hD hS ⟨by rw [e_156.1, e_149.1, e_137.1]; simp only [wrI, wrR, wrP, wrB, sb_shr0, if_neg c_8, if_pos c_88, if_neg c_107, stS (hmn _ (kc hk)) (okI.j hox c_88).1 hsd, if_neg (show ¬ oo x.toNatClampNeg = 0 by rw [c_88]; decide)], by have hB := byJ (b := ob x.toNatClampNeg) c_88; have := e_137.2.1; have := e_149.2.1; have := e_156.2.1;  omega, (((MF.rf.tr e_137.2.2).tr e_149.2.2).tr e_156.2.2)⟩ d_Z_putInstruction_159
    · exact absurd c_44 c_8
  · refine lv_aload_n hx hb d_Z_putInstruction_11 rfl (lv_at hl 1 rfl) ?_
    refine va_get (ci := 5) (v := .ref y4) (C := R_Z) (T := T_Z) (N := 26) hx hb ht in_Z hown hK.1 hP 0 rfl rfl 10 (by decide) (ht _ k_fl_Z_19) (fun _ h9 => h9) rfl d_Z_putInstruction_12 ?_
    refine lv_iload_n hx hb d_Z_putInstruction_15 rfl (lv_at hl 3 rfl) ?_
    refine va_iald hx hb hK.1 hP 4 0 rfl rfl hx1 d_Z_putInstruction_16 ?_
    refine lv_bipush (v := (-128)) hx hb d_Z_putInstruction_17 (by decide) ?_
    refine lv_bipush (v := 127) hx hb d_Z_putInstruction_19 (by decide) ?_
    refine goRi (va_runS (As := [.int (ob x.toNatClampNeg), .int (-128), .int 127]) (rest := []) ⟨hx, hb, hml, hown, hts⟩ (c_Z_within l D cI cL cO (ob x.toNatClampNeg) (-128) 127) (cwS 3 hts (gBIG (m3 k_ml_Z_63 k_st_Z_within k_ini_Z) k_co_Z_within) rfl rfl rfl (by decide +kernel) ⟨Nat.le_of_ble_eq_true rfl, Nat.le_of_ble_eq_true rfl⟩) ⟨PR.bl, PR.pre P_nil hK⟩ rfl rfl hl.1 rfl (lv_room (Nat.le_of_ble_eq_true rfl)) d_Z_putInstruction_21 ⟨Nat.le_of_ble_eq_true rfl, Nat.le_of_ble_eq_true rfl⟩) ?_
    refine lv_if_eq (tgt := 43) hx hb d_Z_putInstruction_24 (by decide) (fun c_24 => ?_) (fun c_24 => ?_)
    · refine lv_iload_n hx hb d_Z_putInstruction_43 rfl (lv_at hl 0 rfl) ?_
      refine lv_if_ne (tgt := 85) hx hb d_Z_putInstruction_44 (by decide) (fun c_44 => ?_) (fun c_44 => ?_)
      · exact absurd c_8 c_44
      · refine lv_aload_n hx hb d_Z_putInstruction_47 rfl (lv_at hl 1 rfl) ?_
        refine lv_iload_n hx hb d_Z_putInstruction_48 rfl (lv_at hl 2 rfl) ?_
        refine lv_iconst (v := 3) hx hb d_Z_putInstruction_49 (by decide) ?_
        refine goMv (va_runV (As := [.int k, .int 3]) (rest := []) ⟨hx, hb, hml, hown, hts⟩ (c_Z_put l D cI cL cO z0 y1 y2 y3 y4 y5 y6 y7 y8 y9 y10 y11 y12 y13 y14 mn oo oa ob ss gg zz md sd da rg pp kp ot th li bl nw wr ru al sp en ke kb at0 fr k 3 hk (by have hB := byL7 c_8 c_24;  omega) H.size) (cwV 2 hts (gBIG (m4 k_ml_Z_81 k_im_Z_put k_sel_Z_put k_ini_Z) k_co_Z_put) rfl rfl rfl (by decide +kernel) ⟨Nat.le_of_ble_eq_true rfl, Nat.le_of_ble_eq_true rfl⟩) ⟨PM.bl, va_recv hK.1 hP (ci := 5) (q0 := 0) rfl rfl, PM.pre hP hD hK⟩ rfl rfl hl.1 rfl (lv_room (Nat.le_of_ble_eq_true rfl)) d_Z_putInstruction_50 ⟨Nat.le_of_ble_eq_true rfl, Nat.le_of_ble_eq_true rfl⟩) hD hS hA (fun u H locs hw hP hD hS => ?_)
        obtain ⟨md_50, at0_50⟩ := u
        have e_50 : (vw 300 md_50 k, at0_50) = apF 3 (vw 300 md k, at0) ∧ at0_50.toInt = at0.toInt + 1 ∧ MF k md md_50 := hw
        have hP : va_P D vwCl ((wZ cI cL z0 y1 y2 y3 y4 y5 y6 y7 y8 y9 y10 y11 y12 y13 y14 mn oo oa ob ss gg zz md_50 sd da rg pp kp ot th li bl nw wr ru al sp en ke kb at0_50) ++ fr) H := hP
        have hD : va_D A ((wZ cI cL z0 y1 y2 y3 y4 y5 y6 y7 y8 y9 y10 y11 y12 y13 y14 mn oo oa ob ss gg zz md_50 sd da rg pp kp ot th li bl nw wr ru al sp en ke kb at0_50) ++ fr) := hD
        refine lv_bipush (v := 24) hx hb d_Z_putInstruction_53 (by decide) ?_
        refine lv_istore (lv' := [(4, .int 24), (3, .int (oo x.toNatClampNeg)), (0, .ref z0), (1, .int k), (2, .int x)]) hx hb d_Z_putInstruction_55 hl (by decide) rfl (fun ls hl => ?_)
        refine lv_iload hx hb d_Z_putInstruction_57 (lv_at hl 0 rfl) ?_
        refine lv_if_lt (tgt := 82) hx hb d_Z_putInstruction_59 (by decide) (fun c_59 => ?_) (fun c_59 => ?_)
        · exact absurd c_59 (by decide)
        · refine lv_aload_n hx hb d_Z_putInstruction_62 rfl (lv_at hl 2 rfl) ?_
          refine lv_iload_n hx hb d_Z_putInstruction_63 rfl (lv_at hl 3 rfl) ?_
          refine lv_aload_n hx hb d_Z_putInstruction_64 rfl (lv_at hl 2 rfl) ?_
          refine va_get (ci := 5) (v := .ref y4) (C := R_Z) (T := T_Z) (N := 26) hx hb ht in_Z hown hK.1 hP 0 rfl rfl 10 (by decide) (ht _ k_fl_Z_19) (fun _ h9 => h9) rfl d_Z_putInstruction_65 ?_
          refine lv_iload_n hx hb d_Z_putInstruction_68 rfl (lv_at hl 4 rfl) ?_
          refine va_iald hx hb hK.1 hP 4 0 rfl rfl hx1 d_Z_putInstruction_69 ?_
          refine lv_iload hx hb d_Z_putInstruction_70 (lv_at hl 0 rfl) ?_
          refine lv_ishr hx hb d_Z_putInstruction_72 ?_
          refine goMv (va_runV (As := [.int k, .int ((ob x.toNatClampNeg) >>> ((24 : Int32) &&& 31))]) (rest := []) ⟨hx, hb, hml, hown, hts⟩ (c_Z_put l D cI cL cO z0 y1 y2 y3 y4 y5 y6 y7 y8 y9 y10 y11 y12 y13 y14 mn oo oa ob ss gg zz md_50 sd da rg pp kp ot th li bl nw wr ru al sp en ke kb at0_50 fr k ((ob x.toNatClampNeg) >>> ((24 : Int32) &&& 31)) hk (by have hB := byL7 c_8 c_24; have := e_50.2.1;  omega) H.size) (cwV 2 hts (gBIG (m4 k_ml_Z_81 k_im_Z_put k_sel_Z_put k_ini_Z) k_co_Z_put) rfl rfl rfl (by decide +kernel) ⟨Nat.le_of_ble_eq_true rfl, Nat.le_of_ble_eq_true rfl⟩) ⟨PM.bl, va_recv hK.1 hP (ci := 5) (q0 := 0) rfl rfl, PM.pre hP hD hK⟩ rfl rfl hl.1 rfl (lv_room (Nat.le_of_ble_eq_true rfl)) d_Z_putInstruction_73 ⟨Nat.le_of_ble_eq_true rfl, Nat.le_of_ble_eq_true rfl⟩) hD hS hA (fun u H locs hw hP hD hS => ?_)
          obtain ⟨md_73, at0_73⟩ := u
          have e_73 : (vw 300 md_73 k, at0_73) = apF ((ob x.toNatClampNeg) >>> ((24 : Int32) &&& 31)) (vw 300 md_50 k, at0_50) ∧ at0_73.toInt = at0_50.toInt + 1 ∧ MF k md_50 md_73 := hw
          have hP : va_P D vwCl ((wZ cI cL z0 y1 y2 y3 y4 y5 y6 y7 y8 y9 y10 y11 y12 y13 y14 mn oo oa ob ss gg zz md_73 sd da rg pp kp ot th li bl nw wr ru al sp en ke kb at0_73) ++ fr) H := hP
          have hD : va_D A ((wZ cI cL z0 y1 y2 y3 y4 y5 y6 y7 y8 y9 y10 y11 y12 y13 y14 mn oo oa ob ss gg zz md_73 sd da rg pp kp ot th li bl nw wr ru al sp en ke kb at0_73) ++ fr) := hD
          refine lv_iinc (v := 16) (lv' := [(4, .int 16), (3, .int (oo x.toNatClampNeg)), (0, .ref z0), (1, .int k), (2, .int x)]) hx hb d_Z_putInstruction_76 hl (k := 0) rfl rfl (by decide) rfl (fun ls hl => ?_)
          refine lv_goto (tgt := 57) hx hb d_Z_putInstruction_79 (by decide) ?_
          refine lv_iload hx hb d_Z_putInstruction_57 (lv_at hl 0 rfl) ?_
          refine lv_if_lt (tgt := 82) hx hb d_Z_putInstruction_59 (by decide) (fun c_59 => ?_) (fun c_59 => ?_)
          · exact absurd c_59 (by decide)
          · refine lv_aload_n hx hb d_Z_putInstruction_62 rfl (lv_at hl 2 rfl) ?_
            refine lv_iload_n hx hb d_Z_putInstruction_63 rfl (lv_at hl 3 rfl) ?_
            refine lv_aload_n hx hb d_Z_putInstruction_64 rfl (lv_at hl 2 rfl) ?_
            refine va_get (ci := 5) (v := .ref y4) (C := R_Z) (T := T_Z) (N := 26) hx hb ht in_Z hown hK.1 hP 0 rfl rfl 10 (by decide) (ht _ k_fl_Z_19) (fun _ h9 => h9) rfl d_Z_putInstruction_65 ?_
            refine lv_iload_n hx hb d_Z_putInstruction_68 rfl (lv_at hl 4 rfl) ?_
            refine va_iald hx hb hK.1 hP 4 0 rfl rfl hx1 d_Z_putInstruction_69 ?_
            refine lv_iload hx hb d_Z_putInstruction_70 (lv_at hl 0 rfl) ?_
            refine lv_ishr hx hb d_Z_putInstruction_72 ?_
            refine goMv (va_runV (As := [.int k, .int ((ob x.toNatClampNeg) >>> ((16 : Int32) &&& 31))]) (rest := []) ⟨hx, hb, hml, hown, hts⟩ (c_Z_put l D cI cL cO z0 y1 y2 y3 y4 y5 y6 y7 y8 y9 y10 y11 y12 y13 y14 mn oo oa ob ss gg zz md_73 sd da rg pp kp ot th li bl nw wr ru al sp en ke kb at0_73 fr k ((ob x.toNatClampNeg) >>> ((16 : Int32) &&& 31)) hk (by have hB := byL7 c_8 c_24; have := e_50.2.1; have := e_73.2.1;  omega) H.size) (cwV 2 hts (gBIG (m4 k_ml_Z_81 k_im_Z_put k_sel_Z_put k_ini_Z) k_co_Z_put) rfl rfl rfl (by decide +kernel) ⟨Nat.le_of_ble_eq_true rfl, Nat.le_of_ble_eq_true rfl⟩) ⟨PM.bl, va_recv hK.1 hP (ci := 5) (q0 := 0) rfl rfl, PM.pre hP hD hK⟩ rfl rfl hl.1 rfl (lv_room (Nat.le_of_ble_eq_true rfl)) d_Z_putInstruction_73 ⟨Nat.le_of_ble_eq_true rfl, Nat.le_of_ble_eq_true rfl⟩) hD hS hA (fun u H locs hw hP hD hS => ?_)
            obtain ⟨md_73_2, at0_73_2⟩ := u
            have e_73_2 : (vw 300 md_73_2 k, at0_73_2) = apF ((ob x.toNatClampNeg) >>> ((16 : Int32) &&& 31)) (vw 300 md_73 k, at0_73) ∧ at0_73_2.toInt = at0_73.toInt + 1 ∧ MF k md_73 md_73_2 := hw
            have hP : va_P D vwCl ((wZ cI cL z0 y1 y2 y3 y4 y5 y6 y7 y8 y9 y10 y11 y12 y13 y14 mn oo oa ob ss gg zz md_73_2 sd da rg pp kp ot th li bl nw wr ru al sp en ke kb at0_73_2) ++ fr) H := hP
            have hD : va_D A ((wZ cI cL z0 y1 y2 y3 y4 y5 y6 y7 y8 y9 y10 y11 y12 y13 y14 mn oo oa ob ss gg zz md_73_2 sd da rg pp kp ot th li bl nw wr ru al sp en ke kb at0_73_2) ++ fr) := hD
            refine lv_iinc (v := 8) (lv' := [(4, .int 8), (3, .int (oo x.toNatClampNeg)), (0, .ref z0), (1, .int k), (2, .int x)]) hx hb d_Z_putInstruction_76 hl (k := 0) rfl rfl (by decide) rfl (fun ls hl => ?_)
            refine lv_goto (tgt := 57) hx hb d_Z_putInstruction_79 (by decide) ?_
            refine lv_iload hx hb d_Z_putInstruction_57 (lv_at hl 0 rfl) ?_
            refine lv_if_lt (tgt := 82) hx hb d_Z_putInstruction_59 (by decide) (fun c_59 => ?_) (fun c_59 => ?_)
            · exact absurd c_59 (by decide)
            · refine lv_aload_n hx hb d_Z_putInstruction_62 rfl (lv_at hl 2 rfl) ?_
              refine lv_iload_n hx hb d_Z_putInstruction_63 rfl (lv_at hl 3 rfl) ?_
              refine lv_aload_n hx hb d_Z_putInstruction_64 rfl (lv_at hl 2 rfl) ?_
              refine va_get (ci := 5) (v := .ref y4) (C := R_Z) (T := T_Z) (N := 26) hx hb ht in_Z hown hK.1 hP 0 rfl rfl 10 (by decide) (ht _ k_fl_Z_19) (fun _ h9 => h9) rfl d_Z_putInstruction_65 ?_
              refine lv_iload_n hx hb d_Z_putInstruction_68 rfl (lv_at hl 4 rfl) ?_
              refine va_iald hx hb hK.1 hP 4 0 rfl rfl hx1 d_Z_putInstruction_69 ?_
              refine lv_iload hx hb d_Z_putInstruction_70 (lv_at hl 0 rfl) ?_
              refine lv_ishr hx hb d_Z_putInstruction_72 ?_
              refine goMv (va_runV (As := [.int k, .int ((ob x.toNatClampNeg) >>> ((8 : Int32) &&& 31))]) (rest := []) ⟨hx, hb, hml, hown, hts⟩ (c_Z_put l D cI cL cO z0 y1 y2 y3 y4 y5 y6 y7 y8 y9 y10 y11 y12 y13 y14 mn oo oa ob ss gg zz md_73_2 sd da rg pp kp ot th li bl nw wr ru al sp en ke kb at0_73_2 fr k ((ob x.toNatClampNeg) >>> ((8 : Int32) &&& 31)) hk (by have hB := byL7 c_8 c_24; have := e_50.2.1; have := e_73.2.1; have := e_73_2.2.1;  omega) H.size) (cwV 2 hts (gBIG (m4 k_ml_Z_81 k_im_Z_put k_sel_Z_put k_ini_Z) k_co_Z_put) rfl rfl rfl (by decide +kernel) ⟨Nat.le_of_ble_eq_true rfl, Nat.le_of_ble_eq_true rfl⟩) ⟨PM.bl, va_recv hK.1 hP (ci := 5) (q0 := 0) rfl rfl, PM.pre hP hD hK⟩ rfl rfl hl.1 rfl (lv_room (Nat.le_of_ble_eq_true rfl)) d_Z_putInstruction_73 ⟨Nat.le_of_ble_eq_true rfl, Nat.le_of_ble_eq_true rfl⟩) hD hS hA (fun u H locs hw hP hD hS => ?_)
              obtain ⟨md_73_3, at0_73_3⟩ := u
              have e_73_3 : (vw 300 md_73_3 k, at0_73_3) = apF ((ob x.toNatClampNeg) >>> ((8 : Int32) &&& 31)) (vw 300 md_73_2 k, at0_73_2) ∧ at0_73_3.toInt = at0_73_2.toInt + 1 ∧ MF k md_73_2 md_73_3 := hw
              have hP : va_P D vwCl ((wZ cI cL z0 y1 y2 y3 y4 y5 y6 y7 y8 y9 y10 y11 y12 y13 y14 mn oo oa ob ss gg zz md_73_3 sd da rg pp kp ot th li bl nw wr ru al sp en ke kb at0_73_3) ++ fr) H := hP
              have hD : va_D A ((wZ cI cL z0 y1 y2 y3 y4 y5 y6 y7 y8 y9 y10 y11 y12 y13 y14 mn oo oa ob ss gg zz md_73_3 sd da rg pp kp ot th li bl nw wr ru al sp en ke kb at0_73_3) ++ fr) := hD
              refine lv_iinc (v := 0) (lv' := [(4, .int 0), (3, .int (oo x.toNatClampNeg)), (0, .ref z0), (1, .int k), (2, .int x)]) hx hb d_Z_putInstruction_76 hl (k := 0) rfl rfl (by decide) rfl (fun ls hl => ?_)
              refine lv_goto (tgt := 57) hx hb d_Z_putInstruction_79 (by decide) ?_
              refine lv_iload hx hb d_Z_putInstruction_57 (lv_at hl 0 rfl) ?_
              refine lv_if_lt (tgt := 82) hx hb d_Z_putInstruction_59 (by decide) (fun c_59 => ?_) (fun c_59 => ?_)
              · exact absurd c_59 (by decide)
              · refine lv_aload_n hx hb d_Z_putInstruction_62 rfl (lv_at hl 2 rfl) ?_
                refine lv_iload_n hx hb d_Z_putInstruction_63 rfl (lv_at hl 3 rfl) ?_
                refine lv_aload_n hx hb d_Z_putInstruction_64 rfl (lv_at hl 2 rfl) ?_
                refine va_get (ci := 5) (v := .ref y4) (C := R_Z) (T := T_Z) (N := 26) hx hb ht in_Z hown hK.1 hP 0 rfl rfl 10 (by decide) (ht _ k_fl_Z_19) (fun _ h9 => h9) rfl d_Z_putInstruction_65 ?_
                refine lv_iload_n hx hb d_Z_putInstruction_68 rfl (lv_at hl 4 rfl) ?_
                refine va_iald hx hb hK.1 hP 4 0 rfl rfl hx1 d_Z_putInstruction_69 ?_
                refine lv_iload hx hb d_Z_putInstruction_70 (lv_at hl 0 rfl) ?_
                refine lv_ishr hx hb d_Z_putInstruction_72 ?_
                refine goMv (va_runV (As := [.int k, .int ((ob x.toNatClampNeg) >>> ((0 : Int32) &&& 31))]) (rest := []) ⟨hx, hb, hml, hown, hts⟩ (c_Z_put l D cI cL cO z0 y1 y2 y3 y4 y5 y6 y7 y8 y9 y10 y11 y12 y13 y14 mn oo oa ob ss gg zz md_73_3 sd da rg pp kp ot th li bl nw wr ru al sp en ke kb at0_73_3 fr k ((ob x.toNatClampNeg) >>> ((0 : Int32) &&& 31)) hk (by have hB := byL7 c_8 c_24; have := e_50.2.1; have := e_73.2.1; have := e_73_2.2.1; have := e_73_3.2.1;  omega) H.size) (cwV 2 hts (gBIG (m4 k_ml_Z_81 k_im_Z_put k_sel_Z_put k_ini_Z) k_co_Z_put) rfl rfl rfl (by decide +kernel) ⟨Nat.le_of_ble_eq_true rfl, Nat.le_of_ble_eq_true rfl⟩) ⟨PM.bl, va_recv hK.1 hP (ci := 5) (q0 := 0) rfl rfl, PM.pre hP hD hK⟩ rfl rfl hl.1 rfl (lv_room (Nat.le_of_ble_eq_true rfl)) d_Z_putInstruction_73 ⟨Nat.le_of_ble_eq_true rfl, Nat.le_of_ble_eq_true rfl⟩) hD hS hA (fun u H locs hw hP hD hS => ?_)
                obtain ⟨md_73_4, at0_73_4⟩ := u
                have e_73_4 : (vw 300 md_73_4 k, at0_73_4) = apF ((ob x.toNatClampNeg) >>> ((0 : Int32) &&& 31)) (vw 300 md_73_3 k, at0_73_3) ∧ at0_73_4.toInt = at0_73_3.toInt + 1 ∧ MF k md_73_3 md_73_4 := hw
                have hP : va_P D vwCl ((wZ cI cL z0 y1 y2 y3 y4 y5 y6 y7 y8 y9 y10 y11 y12 y13 y14 mn oo oa ob ss gg zz md_73_4 sd da rg pp kp ot th li bl nw wr ru al sp en ke kb at0_73_4) ++ fr) H := hP
                have hD : va_D A ((wZ cI cL z0 y1 y2 y3 y4 y5 y6 y7 y8 y9 y10 y11 y12 y13 y14 mn oo oa ob ss gg zz md_73_4 sd da rg pp kp ot th li bl nw wr ru al sp en ke kb at0_73_4) ++ fr) := hD
                refine lv_iinc (v := (-8)) (lv' := [(4, .int (-8)), (3, .int (oo x.toNatClampNeg)), (0, .ref z0), (1, .int k), (2, .int x)]) hx hb d_Z_putInstruction_76 hl (k := 0) rfl rfl (by decide) rfl (fun ls hl => ?_)
                refine lv_goto (tgt := 57) hx hb d_Z_putInstruction_79 (by decide) ?_
                refine lv_iload hx hb d_Z_putInstruction_57 (lv_at hl 0 rfl) ?_
                refine lv_if_lt (tgt := 82) hx hb d_Z_putInstruction_59 (by decide) (fun c_59 => ?_) (fun c_59 => ?_)
                · refine lv_goto (tgt := 204) hx hb d_Z_putInstruction_82 (by decide) ?_
                  refine lv_aload_n hx hb d_Z_putInstruction_204 rfl (lv_at hl 2 rfl) ?_
                  refine lv_iload_n hx hb d_Z_putInstruction_205 rfl (lv_at hl 3 rfl) ?_
                  refine lv_iconst (v := 2) hx hb d_Z_putInstruction_206 (by decide) ?_
                  refine lv_aload_n hx hb d_Z_putInstruction_207 rfl (lv_at hl 2 rfl) ?_
                  refine va_get (ci := 5) (v := .ref y3) (C := R_Z) (T := T_Z) (N := 26) hx hb ht in_Z hown hK.1 hP 0 rfl rfl 9 (by decide) (ht _ k_fl_Z_16) (fun _ h9 => h9) rfl d_Z_putInstruction_208 ?_
                  refine lv_iload_n hx hb d_Z_putInstruction_211 rfl (lv_at hl 4 rfl) ?_
                  refine va_iald hx hb hK.1 hP 3 0 rfl rfl hx1 d_Z_putInstruction_212 ?_
                  refine goMv (va_runV (As := [.int k, .int 2, .int (oa x.toNatClampNeg)]) (rest := []) ⟨hx, hb, hml, hown, hts⟩ (c_Z_putTwo l D cI cL cO z0 y1 y2 y3 y4 y5 y6 y7 y8 y9 y10 y11 y12 y13 y14 mn oo oa ob ss gg zz md_73_4 sd da rg pp kp ot th li bl nw wr ru al sp en ke kb at0_73_4 fr k 2 (oa x.toNatClampNeg) hk (by have hB := byL7 c_8 c_24; have := e_50.2.1; have := e_73.2.1; have := e_73_2.2.1; have := e_73_3.2.1; have := e_73_4.2.1;  omega) H.size) (cwV 3 hts (gBIG (m4 k_ml_Z_85 k_im_Z_putTwo k_sel_Z_putTwo k_ini_Z) k_co_Z_putTwo) rfl rfl rfl (by decide +kernel) ⟨Nat.le_of_ble_eq_true rfl, Nat.le_of_ble_eq_true rfl⟩) ⟨PM.bl, va_recv hK.1 hP (ci := 5) (q0 := 0) rfl rfl, PM.pre hP hD hK⟩ rfl rfl hl.1 rfl (lv_room (Nat.le_of_ble_eq_true rfl)) d_Z_putInstruction_213 ⟨Nat.le_of_ble_eq_true rfl, Nat.le_of_ble_eq_true rfl⟩) hD hS hA (fun u H locs hw hP hD hS => ?_)
                  obtain ⟨md_213, at0_213⟩ := u
                  have e_213 : (vw 300 md_213 k, at0_213) = wrR 2 (oa x.toNatClampNeg) (vw 300 md_73_4 k, at0_73_4) ∧ at0_213.toInt = at0_73_4.toInt + 2 ∧ MF k md_73_4 md_213 := hw
                  have hP : va_P D vwCl ((wZ cI cL z0 y1 y2 y3 y4 y5 y6 y7 y8 y9 y10 y11 y12 y13 y14 mn oo oa ob ss gg zz md_213 sd da rg pp kp ot th li bl nw wr ru al sp en ke kb at0_213) ++ fr) H := hP
                  have hD : va_D A ((wZ cI cL z0 y1 y2 y3 y4 y5 y6 y7 y8 y9 y10 y11 y12 y13 y14 mn oo oa ob ss gg zz md_213 sd da rg pp kp ot th li bl nw wr ru al sp en ke kb at0_213) ++ fr) := hD
                  rw [hQ]; exact retMv (w1 := fun u : Fn × Int32 => ((wZ cI cL z0 y1 y2 y3 y4 y5 y6 y7 y8 y9 y10 y11 y12 y13 y14 mn oo oa ob ss gg zz u.1 sd da rg pp kp ot th li bl nw wr ru al sp en ke kb u.2) ++ fr)) (md_213, at0_213) hx hb hr hlocks hP hD hS ⟨by rw [e_213.1, e_73_4.1, e_73_3.1, e_73_2.1, e_73.1, e_50.1]; simp only [wrI, wrR, wrP, wrB, sb_shr0, if_pos c_8, if_pos c_24, if_pos (show fitsB (ob x.toNatClampNeg) = 0 from c_24)], by have hB := byL7 c_8 c_24; have := e_50.2.1; have := e_73.2.1; have := e_73_2.2.1; have := e_73_3.2.1; have := e_73_4.2.1; have := e_213.2.1;  omega, ((((((MF.rf.tr e_50.2.2).tr e_73.2.2).tr e_73_2.2.2).tr e_73_3.2.2).tr e_73_4.2.2).tr e_213.2.2)⟩ d_Z_putInstruction_216
                · exact absurd c_59 (by decide)
    · refine lv_aload_n hx hb d_Z_putInstruction_27 rfl (lv_at hl 1 rfl) ?_
      refine lv_iload_n hx hb d_Z_putInstruction_28 rfl (lv_at hl 2 rfl) ?_
      refine lv_bipush (v := 16) hx hb d_Z_putInstruction_29 (by decide) ?_
      refine lv_aload_n hx hb d_Z_putInstruction_31 rfl (lv_at hl 1 rfl) ?_
      refine va_get (ci := 5) (v := .ref y4) (C := R_Z) (T := T_Z) (N := 26) hx hb ht in_Z hown hK.1 hP 0 rfl rfl 10 (by decide) (ht _ k_fl_Z_19) (fun _ h9 => h9) rfl d_Z_putInstruction_32 ?_
      refine lv_iload_n hx hb d_Z_putInstruction_35 rfl (lv_at hl 3 rfl) ?_
      refine va_iald hx hb hK.1 hP 4 0 rfl rfl hx1 d_Z_putInstruction_36 ?_
      refine goMv (va_runV (As := [.int k, .int 16, .int (ob x.toNatClampNeg)]) (rest := []) ⟨hx, hb, hml, hown, hts⟩ (c_Z_putTwo l D cI cL cO z0 y1 y2 y3 y4 y5 y6 y7 y8 y9 y10 y11 y12 y13 y14 mn oo oa ob ss gg zz md sd da rg pp kp ot th li bl nw wr ru al sp en ke kb at0 fr k 16 (ob x.toNatClampNeg) hk (by have hB := byS c_8 c_24;  omega) H.size) (cwV 3 hts (gBIG (m4 k_ml_Z_85 k_im_Z_putTwo k_sel_Z_putTwo k_ini_Z) k_co_Z_putTwo) rfl rfl rfl (by decide +kernel) ⟨Nat.le_of_ble_eq_true rfl, Nat.le_of_ble_eq_true rfl⟩) ⟨PM.bl, va_recv hK.1 hP (ci := 5) (q0 := 0) rfl rfl, PM.pre hP hD hK⟩ rfl rfl hl.1 rfl (lv_room (Nat.le_of_ble_eq_true rfl)) d_Z_putInstruction_37 ⟨Nat.le_of_ble_eq_true rfl, Nat.le_of_ble_eq_true rfl⟩) hD hS hA (fun u H locs hw hP hD hS => ?_)
      obtain ⟨md_37, at0_37⟩ := u
      have e_37 : (vw 300 md_37 k, at0_37) = wrR 16 (ob x.toNatClampNeg) (vw 300 md k, at0) ∧ at0_37.toInt = at0.toInt + 2 ∧ MF k md md_37 := hw
      have hP : va_P D vwCl ((wZ cI cL z0 y1 y2 y3 y4 y5 y6 y7 y8 y9 y10 y11 y12 y13 y14 mn oo oa ob ss gg zz md_37 sd da rg pp kp ot th li bl nw wr ru al sp en ke kb at0_37) ++ fr) H := hP
      have hD : va_D A ((wZ cI cL z0 y1 y2 y3 y4 y5 y6 y7 y8 y9 y10 y11 y12 y13 y14 mn oo oa ob ss gg zz md_37 sd da rg pp kp ot th li bl nw wr ru al sp en ke kb at0_37) ++ fr) := hD
      refine lv_goto (tgt := 204) hx hb d_Z_putInstruction_40 (by decide) ?_
      refine lv_aload_n hx hb d_Z_putInstruction_204 rfl (lv_at hl 1 rfl) ?_
      refine lv_iload_n hx hb d_Z_putInstruction_205 rfl (lv_at hl 2 rfl) ?_
      refine lv_iconst (v := 2) hx hb d_Z_putInstruction_206 (by decide) ?_
      refine lv_aload_n hx hb d_Z_putInstruction_207 rfl (lv_at hl 1 rfl) ?_
      refine va_get (ci := 5) (v := .ref y3) (C := R_Z) (T := T_Z) (N := 26) hx hb ht in_Z hown hK.1 hP 0 rfl rfl 9 (by decide) (ht _ k_fl_Z_16) (fun _ h9 => h9) rfl d_Z_putInstruction_208 ?_
      refine lv_iload_n hx hb d_Z_putInstruction_211 rfl (lv_at hl 3 rfl) ?_
      refine va_iald hx hb hK.1 hP 3 0 rfl rfl hx1 d_Z_putInstruction_212 ?_
      refine goMv (va_runV (As := [.int k, .int 2, .int (oa x.toNatClampNeg)]) (rest := []) ⟨hx, hb, hml, hown, hts⟩ (c_Z_putTwo l D cI cL cO z0 y1 y2 y3 y4 y5 y6 y7 y8 y9 y10 y11 y12 y13 y14 mn oo oa ob ss gg zz md_37 sd da rg pp kp ot th li bl nw wr ru al sp en ke kb at0_37 fr k 2 (oa x.toNatClampNeg) hk (by have hB := byS c_8 c_24; have := e_37.2.1;  omega) H.size) (cwV 3 hts (gBIG (m4 k_ml_Z_85 k_im_Z_putTwo k_sel_Z_putTwo k_ini_Z) k_co_Z_putTwo) rfl rfl rfl (by decide +kernel) ⟨Nat.le_of_ble_eq_true rfl, Nat.le_of_ble_eq_true rfl⟩) ⟨PM.bl, va_recv hK.1 hP (ci := 5) (q0 := 0) rfl rfl, PM.pre hP hD hK⟩ rfl rfl hl.1 rfl (lv_room (Nat.le_of_ble_eq_true rfl)) d_Z_putInstruction_213 ⟨Nat.le_of_ble_eq_true rfl, Nat.le_of_ble_eq_true rfl⟩) hD hS hA (fun u H locs hw hP hD hS => ?_)
      obtain ⟨md_213, at0_213⟩ := u
      have e_213 : (vw 300 md_213 k, at0_213) = wrR 2 (oa x.toNatClampNeg) (vw 300 md_37 k, at0_37) ∧ at0_213.toInt = at0_37.toInt + 2 ∧ MF k md_37 md_213 := hw
      have hP : va_P D vwCl ((wZ cI cL z0 y1 y2 y3 y4 y5 y6 y7 y8 y9 y10 y11 y12 y13 y14 mn oo oa ob ss gg zz md_213 sd da rg pp kp ot th li bl nw wr ru al sp en ke kb at0_213) ++ fr) H := hP
      have hD : va_D A ((wZ cI cL z0 y1 y2 y3 y4 y5 y6 y7 y8 y9 y10 y11 y12 y13 y14 mn oo oa ob ss gg zz md_213 sd da rg pp kp ot th li bl nw wr ru al sp en ke kb at0_213) ++ fr) := hD
      rw [hQ]; exact retMv (w1 := fun u : Fn × Int32 => ((wZ cI cL z0 y1 y2 y3 y4 y5 y6 y7 y8 y9 y10 y11 y12 y13 y14 mn oo oa ob ss gg zz u.1 sd da rg pp kp ot th li bl nw wr ru al sp en ke kb u.2) ++ fr)) (md_213, at0_213) hx hb hr hlocks hP hD hS ⟨by rw [e_213.1, e_37.1]; simp only [wrI, wrR, wrP, wrB, sb_shr0, if_pos c_8, if_neg c_24, if_neg (show ¬ fitsB (ob x.toNatClampNeg) = 0 from c_24)], by have hB := byS c_8 c_24; have := e_37.2.1; have := e_213.2.1;  omega, ((MF.rf.tr e_37.2.2).tr e_213.2.2)⟩ d_Z_putInstruction_216
