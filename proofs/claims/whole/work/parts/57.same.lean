theorem one_add {x : Int32} (h : 0 ≤ x.toInt ∧ x.toInt ≤ 400) : 0 ≤ (1 + x).toInt := by
  rw [i32_add (by rw [show (1 : Int32).toInt = 1 by decide]; omega) (by rw [show (1 : Int32).toInt = 1 by decide]; omega), show (1 : Int32).toInt = 1 by decide]; omega
theorem n300 {x : Int32} (h : ¬ (300 : Int32) ≤ x) : x.toInt < 300 := by
  have := i_lt h
  rw [show (300 : Int32).toInt = 300 by decide] at this; exact this
theorem vcL_nn (b : Fn) (bc : Int32) (hb : 0 ≤ bc.toInt ∧ bc.toInt ≤ 300) : ∀ (n : Nat) (at1 dp : Int32) (d : Fn), 0 ≤ at1.toInt → 0 ≤ (vcL b bc n at1 dp d).1.toInt := by
  intro n
  induction n with
  | zero => intro at1 dp d h; simp [vcL]
  | succ n ih =>
    intro at1 dp d h
    unfold vcL
    split
    · exact one_add (by omega)
    split
    · exact one_add (by omega)
    rename_i c3
    have h3 := n300 c3
    split
    · exact one_add (by omega)
    split
    · exact one_add (by omega)
    split
    · split
      · simp only [endF]
        split
        · split
          · simp
          · exact one_add (by rw [i32_1 (by omega)]; omega)
        · exact one_add (by omega)
      · split
        · exact ih _ _ _ (vc_i h c3).1
        · exact one_add (by omega)
    · exact one_add (by omega)
theorem vbL_nn (b : Fn) (bc : Int32) (d : Fn) : ∀ (n : Nat) (i : Int32), 0 ≤ i.toInt → 0 ≤ (vbL b bc d n i).toInt := by
  intro n
  induction n with
  | zero => intro i h; simp [vbL]
  | succ n ih =>
    intro i h
    unfold vbL
    split
    · simp
    split
    · simp
    rename_i c3
    have h3 := n300 c3
    have h4 : 0 ≤ (i + 1).toInt := by rw [i32_1 (by omega)]; omega
    split
    · exact ih _ h4
    split
    · split
      · split
        · exact one_add (by omega)
        · exact ih _ h4
      · exact one_add (by omega)
    · exact ih _ h4
theorem vdF_nn (b : Fn) (bc : Int32) (hb : 0 ≤ bc.toInt ∧ bc.toInt ≤ 300) : 0 ≤ (vdF b bc).toInt := by
  unfold vdF
  split
  · exact vbL_nn _ _ _ _ _ (by decide)
  · exact vcL_nn _ _ hb _ _ _ _ (by decide)
theorem vd_le {b : Fn} {bc : Int32} (hb : 0 ≤ bc.toInt ∧ bc.toInt ≤ 300) (h : vdF b bc ≤ 0) : vdF b bc = 0 := by
  have h1 := vdF_nn b bc hb
  rw [Int32.le_iff_toInt_le, Int32.toInt_zero] at h
  exact Int32.toInt_inj.mp (by rw [Int32.toInt_zero]; omega)
theorem vd_nle {b : Fn} {bc : Int32} (h : ¬ vdF b bc ≤ 0) : ¬ vdF b bc = 0 := fun e => h (by rw [e]; decide)
def zsL (g g2 : FL) : Nat → Int32 → Int32 → Int32
  | 0, _, q => q
  | n + 1, i, q => if 4 ≤ i then q else zsL g g2 n (i + 1) (if q = 0 then 0 else if lg_cmp (g i.toNatClampNeg) (g2 i.toNatClampNeg) = 0 then 1 else 0)
def zsA (g g2 : FL) (q : Int32) : Int32 := zsL g g2 5 0 q
def zsmF (RO : FL × Int32 × Int32) (BY : FL × Pi × Int32 × Int32) : Int32 := zsA RO.1 BY.1 (if BY.2.2.1 = RO.2.1 then (if BY.2.2.2 = RO.2.2 then 1 else 0) else 0)
def zsmP (k bl : Int32) (mn oo oa ob ss zz md : Fn) (x y : Int64) (pp : FL) (r th : Int32) : Prop :=
  (wiF k 0 (bl - 1) = 0 ∧ r = 0 ∧ th = 1) ∨
  (¬ wiF k 0 (bl - 1) = 0 ∧ ((ss k.toNatClampNeg = 0 ∨ ¬ vdF (vw 300 md k) (zz k.toNatClampNeg) = 0) ∧ r = 0 ∧ th = 2 ∨
    (¬ ss k.toNatClampNeg = 0 ∧ vdF (vw 300 md k) (zz k.toNatClampNeg) = 0 ∧ th = 0 ∧ r = zsmF (roL (vw 60 oo k) (vw 60 oa k) (vw 60 ob k) (mn k.toNatClampNeg) 2001 0 (begR x y) 0) (byL (vw 300 md k) (zz k.toNatClampNeg) 600301 0 0 (begR x y) (pp, 0) 0))))

abbrev w_Z_same : List Cond := .code y_Z_same b_Z_same 10 (some .boolean) :: BIG
set_option maxHeartbeats 1000000 in
set_option maxRecDepth 100000 in
theorem c_Z_same (l : Launch) (D : va_G) (cI cL cO : ClassId) (z0 : Nat) (y1 : Nat) (y2 : Nat) (y3 : Nat) (y4 : Nat) (y5 : Nat) (y6 : Nat) (y7 : Nat) (y8 : Nat) (y9 : Nat) (y10 : Nat) (y11 : Nat) (y12 : Nat) (y13 : Nat) (y14 : Nat) (mn : Fn) (oo : Fn) (oa : Fn) (ob : Fn) (ss : Fn) (gg : Fn) (zz : Fn) (md : Fn) (sd : Fn) (da : Fn) (rg : FL) (pp : FL) (kp : FL) (ot : FL) (th : Int32) (li : Int32) (bl : Int32) (nw : Int32) (wr : Int32) (ru : Int32) (al : Int32) (sp : Int32) (en : Int32) (ke : Int32) (kb : Int32) (at0 : Int32) (fr : va_W) (k : Int32) (x : Int64) (y : Int64) (hbl : 0 ≤ bl.toInt ∧ bl.toInt ≤ 24) (hmn : ∀ j, j < 24 → 0 ≤ (mn j).toInt ∧ (mn j).toInt ≤ 60) (hzz : ∀ j, j < 24 → 0 ≤ (zz j).toInt ∧ (zz j).toInt ≤ 300) (hY7 : okY7 md) (hokA : okA mn oo oa ob) : CMi l y_Z_same w_Z_same ({ frames := 4, cells := 0, slots := 0, locals := 94 }) D cI cL cO [.ref z0, .int k, .long x, .long y] ((wZ cI cL z0 y1 y2 y3 y4 y5 y6 y7 y8 y9 y10 y11 y12 y13 y14 mn oo oa ob ss gg zz md sd da rg pp kp ot th li bl nw wr ru al sp en ke kb at0) ++ fr) (fun (r : Int32) (u : Int32 × Fn × FL × FL × Int32 × Int32 × FL) => zsmP k bl mn oo oa ob ss zz md x y pp r u.1) (fun u : Int32 × Fn × FL × FL × Int32 × Int32 × FL => ((wZ cI cL z0 y1 y2 y3 y4 y5 y6 y7 y8 y9 y10 y11 y12 y13 y14 mn oo oa ob ss gg zz md sd u.2.1 u.2.2.1 u.2.2.2.1 kp u.2.2.2.2.2.2 u.1 li bl nw wr ru al u.2.2.2.2.1 u.2.2.2.2.2.1 ke kb at0) ++ fr)) 0 0 := by
  refine ofMi (cc := b_Z_same) (maxL := 10) (ret := (some .boolean)) (by decide) rfl (Nat.le_of_ble_eq_true rfl) ?_
  intro p e s m below meth c A ls H Q hQ hx hb hr hlocks hin hts hown hml hP hK hD hS hA hl
  have hl : lv_has ls 10 [(0, .ref z0), (1, .int k), (2, .long x), (4, .long y)] := hl
  have hown : s.vm.findClass R_Z = some m.cls := hown
  have ht : ∀ w ∈ BIG, w.before _ s = true := fun w h => hts w (List.mem_cons_of_mem _ h)
  refine lv_aload_n hx hb d_Z_same_0 rfl (lv_at hl 0 rfl) ?_
  refine lv_iload_n hx hb d_Z_same_1 rfl (lv_at hl 1 rfl) ?_
  refine goMi (va_runV (As := [.int k]) (rest := []) ⟨hx, hb, hml, hown, hts⟩ (c_Z_isBlock l D cI cL cO z0 y1 y2 y3 y4 y5 y6 y7 y8 y9 y10 y11 y12 y13 y14 mn oo oa ob ss gg zz md sd da rg pp kp ot th li bl nw wr ru al sp en ke kb at0 fr k H.size) (cwV 1 hts (gBIG (m4 k_ml_Z_71 k_im_Z_isBlock k_sel_Z_isBlock k_ini_Z) k_co_Z_isBlock) rfl rfl rfl (by decide +kernel) ⟨Nat.le_of_ble_eq_true rfl, Nat.le_of_ble_eq_true rfl⟩) ⟨PM.bl, va_recv hK.1 hP (ci := 5) (q0 := 0) rfl rfl, PM.pre hP hD hK⟩ rfl rfl hl.1 rfl (lv_room (Nat.le_of_ble_eq_true rfl)) d_Z_same_2 ⟨Nat.le_of_ble_eq_true rfl, Nat.le_of_ble_eq_true rfl⟩) hD hS hA (fun r_2 u H locs hw hP hD hS => ?_)
  obtain ⟨rfl, rfl⟩ := hw
  have hP : va_P D vwCl ((wZ cI cL z0 y1 y2 y3 y4 y5 y6 y7 y8 y9 y10 y11 y12 y13 y14 mn oo oa ob ss gg zz md sd da rg pp kp ot (if wiF k 0 (bl - 1) = 0 then 1 else 0) li bl nw wr ru al sp en ke kb at0) ++ fr) H := hP
  have hD : va_D A ((wZ cI cL z0 y1 y2 y3 y4 y5 y6 y7 y8 y9 y10 y11 y12 y13 y14 mn oo oa ob ss gg zz md sd da rg pp kp ot (if wiF k 0 (bl - 1) = 0 then 1 else 0) li bl nw wr ru al sp en ke kb at0) ++ fr) := hD
  refine lv_if_ne (tgt := 10) hx hb d_Z_same_5 (by decide) (fun c_5 => ?_) (fun c_5 => ?_)
  · refine lv_aload_n hx hb d_Z_same_10 rfl (lv_at hl 0 rfl) ?_
    refine va_get (ci := 5) (v := .ref y5) (C := R_Z) (T := T_Z) (N := 26) hx hb ht in_Z hown hK.1 hP 0 rfl rfl 11 (by decide) (ht _ k_fl_Z_22) (fun _ h9 => h9) rfl d_Z_same_11 ?_
    refine lv_iload_n hx hb d_Z_same_14 rfl (lv_at hl 1 rfl) ?_
    refine va_iald hx hb hK.1 hP 5 0 rfl rfl (in_k (k_t (wi_k hbl c_5))) d_Z_same_15 ?_
    refine lv_if_eq (tgt := 27) hx hb d_Z_same_16 (by decide) (fun c_16 => ?_) (fun c_16 => ?_)
    · refine lv_aload_n hx hb d_Z_same_27 rfl (lv_at hl 0 rfl) ?_
      refine lv_iconst (v := 2) hx hb d_Z_same_28 (by decide) ?_
      refine va_put (ci := 5) (v := .int 2) (ty := .int) (C := R_Z) (T := T_Z) (N := 26) hx hb ht in_Z t_Z t_Z_ok n_Z hown hK.1 hP hD hS 0 rfl rfl 0 (by decide) (ht _ k_fl_Z_57) (fun _ h9 => h9) rfl (by decide +kernel) rfl rfl (Nat.le_of_ble_eq_true rfl) d_Z_same_29 (fun H locs hP hD hS => ?_)
      have hP : va_P D vwCl ((wZ cI cL z0 y1 y2 y3 y4 y5 y6 y7 y8 y9 y10 y11 y12 y13 y14 mn oo oa ob ss gg zz md sd da rg pp kp ot 2 li bl nw wr ru al sp en ke kb at0) ++ fr) H := hP
      have hD : va_D A ((wZ cI cL z0 y1 y2 y3 y4 y5 y6 y7 y8 y9 y10 y11 y12 y13 y14 mn oo oa ob ss gg zz md sd da rg pp kp ot 2 li bl nw wr ru al sp en ke kb at0) ++ fr) := hD
      refine lv_iconst (v := 0) hx hb d_Z_same_32 (by decide) ?_
      rw [hQ]; exact retMz (w1 := fun u : Int32 × Fn × FL × FL × Int32 × Int32 × FL => ((wZ cI cL z0 y1 y2 y3 y4 y5 y6 y7 y8 y9 y10 y11 y12 y13 y14 mn oo oa ob ss gg zz md sd u.2.1 u.2.2.1 u.2.2.2.1 kp u.2.2.2.2.2.2 u.1 li bl nw wr ru al u.2.2.2.2.1 u.2.2.2.2.2.1 ke kb at0) ++ fr)) (2, da, rg, pp, sp, en, ot) hx hb hr hlocks rfl hP hD hS (Or.inr ⟨c_5, Or.inl ⟨Or.inl c_16, rfl, rfl⟩⟩) d_Z_same_33
    · refine lv_aload_n hx hb d_Z_same_19 rfl (lv_at hl 0 rfl) ?_
      refine lv_iload_n hx hb d_Z_same_20 rfl (lv_at hl 1 rfl) ?_
      refine goMi (va_runV (As := [.int k]) (rest := []) ⟨hx, hb, hml, hown, hts⟩ (c_Z_checkOf l D cI cL cO z0 y1 y2 y3 y4 y5 y6 y7 y8 y9 y10 y11 y12 y13 y14 mn oo oa ob ss gg zz md sd da rg pp kp ot (if wiF k 0 (bl - 1) = 0 then 1 else 0) li bl nw wr ru al sp en ke kb at0 fr k hzz (k_t (wi_k hbl c_5)) (hY7.v (k_t (wi_k hbl c_5))) H.size) (cwV 1 hts (gBIG (m4 k_ml_Z_114 k_im_Z_checkOf k_sel_Z_checkOf k_ini_Z) k_co_Z_checkOf) rfl rfl rfl (by decide +kernel) ⟨Nat.le_of_ble_eq_true rfl, Nat.le_of_ble_eq_true rfl⟩) ⟨PM.bl, va_recv hK.1 hP (ci := 5) (q0 := 0) rfl rfl, PM.pre hP hD hK⟩ rfl rfl hl.1 rfl (lv_room (Nat.le_of_ble_eq_true rfl)) d_Z_same_21 ⟨Nat.le_of_ble_eq_true rfl, Nat.le_of_ble_eq_true rfl⟩) hD hS hA (fun r_21 u H locs hw hP hD hS => ?_)
      obtain ⟨da_21, rfl⟩ : ∃ z, z = u := ⟨_, rfl⟩
      have e_21 : r_21 = vdF (vw 300 md k) (zz k.toNatClampNeg) := hw
      have hP : va_P D vwCl ((wZ cI cL z0 y1 y2 y3 y4 y5 y6 y7 y8 y9 y10 y11 y12 y13 y14 mn oo oa ob ss gg zz md sd da_21 rg pp kp ot (if wiF k 0 (bl - 1) = 0 then 1 else 0) li bl nw wr ru al sp en ke kb at0) ++ fr) H := hP
      have hD : va_D A ((wZ cI cL z0 y1 y2 y3 y4 y5 y6 y7 y8 y9 y10 y11 y12 y13 y14 mn oo oa ob ss gg zz md sd da_21 rg pp kp ot (if wiF k 0 (bl - 1) = 0 then 1 else 0) li bl nw wr ru al sp en ke kb at0) ++ fr) := hD
      refine lv_if_le (tgt := 34) hx hb d_Z_same_24 (by decide) (fun c_24 => ?_) (fun c_24 => ?_)
      · have hv0 : vdF (vw 300 md k) (zz k.toNatClampNeg) = 0 := vd_le (hzz _ (by have := kc (k_t (wi_k hbl c_5)); omega)) (by rw [← e_21]; exact c_24)
        refine lv_aload_n hx hb d_Z_same_34 rfl (lv_at hl 0 rfl) ?_
        refine lv_lload_n hx hb d_Z_same_35 rfl (lv_at hl 2 rfl) ?_
        refine lv_lload hx hb d_Z_same_36 (lv_at hl 3 rfl) ?_
        refine goMv (va_runV (As := [.long x, .long y]) (rest := []) ⟨hx, hb, hml, hown, hts⟩ (c_Z_begin l D cI cL cO z0 y1 y2 y3 y4 y5 y6 y7 y8 y9 y10 y11 y12 y13 y14 mn oo oa ob ss gg zz md sd da_21 rg pp kp ot (if wiF k 0 (bl - 1) = 0 then 1 else 0) li bl nw wr ru al sp en ke kb at0 fr x y H.size) (cwV 2 hts (gBIG (m4 k_ml_Z_137 k_im_Z_begin k_sel_Z_begin k_ini_Z) k_co_Z_begin) rfl rfl rfl (by decide +kernel) ⟨Nat.le_of_ble_eq_true rfl, Nat.le_of_ble_eq_true rfl⟩) ⟨PM.bl, va_recv hK.1 hP (ci := 5) (q0 := 0) rfl rfl, PM.pre hP hD hK⟩ rfl rfl hl.1 rfl (lv_room (Nat.le_of_ble_eq_true rfl)) d_Z_same_38 ⟨Nat.le_of_ble_eq_true rfl, Nat.le_of_ble_eq_true rfl⟩) hD hS hA (fun u H locs hw hP hD hS => ?_)
        obtain rfl := hw
        have hP : va_P D vwCl ((wZ cI cL z0 y1 y2 y3 y4 y5 y6 y7 y8 y9 y10 y11 y12 y13 y14 mn oo oa ob ss gg zz md sd da_21 (begR x y) pp kp ot (if wiF k 0 (bl - 1) = 0 then 1 else 0) li bl nw wr ru al 0 0 ke kb at0) ++ fr) H := hP
        have hD : va_D A ((wZ cI cL z0 y1 y2 y3 y4 y5 y6 y7 y8 y9 y10 y11 y12 y13 y14 mn oo oa ob ss gg zz md sd da_21 (begR x y) pp kp ot (if wiF k 0 (bl - 1) = 0 then 1 else 0) li bl nw wr ru al 0 0 ke kb at0) ++ fr) := hD
        refine lv_aload_n hx hb d_Z_same_41 rfl (lv_at hl 0 rfl) ?_
        refine lv_iload_n hx hb d_Z_same_42 rfl (lv_at hl 1 rfl) ?_
        refine goMv (va_runV (As := [.int k]) (rest := []) ⟨hx, hb, hml, hown, hts⟩ (c_Z_runRows l D cI cL cO z0 y1 y2 y3 y4 y5 y6 y7 y8 y9 y10 y11 y12 y13 y14 mn oo oa ob ss gg zz md sd da_21 (begR x y) pp kp ot (if wiF k 0 (bl - 1) = 0 then 1 else 0) li bl nw wr ru al 0 0 ke kb at0 fr k hmn (k_t (wi_k hbl c_5)) (hokA k (k_t (wi_k hbl c_5))) rfl rfl H.size) (cwV 1 hts (gBIG (m4 k_ml_Z_149 k_im_Z_runRows k_sel_Z_runRows k_ini_Z) k_co_Z_runRows) rfl rfl rfl (by decide +kernel) ⟨Nat.le_of_ble_eq_true rfl, Nat.le_of_ble_eq_true rfl⟩) ⟨PM.bl, va_recv hK.1 hP (ci := 5) (q0 := 0) rfl rfl, PM.pre hP hD hK⟩ rfl rfl hl.1 rfl (lv_room (Nat.le_of_ble_eq_true rfl)) d_Z_same_43 ⟨Nat.le_of_ble_eq_true rfl, Nat.le_of_ble_eq_true rfl⟩) hD hS hA (fun u H locs hw hP hD hS => ?_)
        obtain ⟨rg_43, sp_43, en_43⟩ := u
        have e_43 : (rg_43, sp_43, en_43) = roL (vw 60 oo k) (vw 60 oa k) (vw 60 ob k) (mn k.toNatClampNeg) 2001 0 (begR x y) 0 := hw
        have hP : va_P D vwCl ((wZ cI cL z0 y1 y2 y3 y4 y5 y6 y7 y8 y9 y10 y11 y12 y13 y14 mn oo oa ob ss gg zz md sd da_21 rg_43 pp kp ot (if wiF k 0 (bl - 1) = 0 then 1 else 0) li bl nw wr ru al sp_43 en_43 ke kb at0) ++ fr) H := hP
        have hD : va_D A ((wZ cI cL z0 y1 y2 y3 y4 y5 y6 y7 y8 y9 y10 y11 y12 y13 y14 mn oo oa ob ss gg zz md sd da_21 rg_43 pp kp ot (if wiF k 0 (bl - 1) = 0 then 1 else 0) li bl nw wr ru al sp_43 en_43 ke kb at0) ++ fr) := hD
        refine lv_aload_n hx hb d_Z_same_46 rfl (lv_at hl 0 rfl) ?_
        refine va_get (ci := 5) (v := .int sp_43) (C := R_Z) (T := T_Z) (N := 26) hx hb ht in_Z hown hK.1 hP 0 rfl rfl 19 (by decide) (ht _ k_fl_Z_124) (fun _ h9 => h9) rfl d_Z_same_47 ?_
        refine lv_istore (lv' := [(6, .int sp_43), (0, .ref z0), (1, .int k), (2, .long x), (4, .long y)]) hx hb d_Z_same_50 hl (by decide) rfl (fun ls hl => ?_)
        refine lv_aload_n hx hb d_Z_same_52 rfl (lv_at hl 1 rfl) ?_
        refine va_get (ci := 5) (v := .int en_43) (C := R_Z) (T := T_Z) (N := 26) hx hb ht in_Z hown hK.1 hP 0 rfl rfl 20 (by decide) (ht _ k_fl_Z_127) (fun _ h9 => h9) rfl d_Z_same_53 ?_
        refine lv_istore (lv' := [(7, .int en_43), (6, .int sp_43), (0, .ref z0), (1, .int k), (2, .long x), (4, .long y)]) hx hb d_Z_same_56 hl (by decide) rfl (fun ls hl => ?_)
        refine lv_iconst (v := 0) hx hb d_Z_same_58 (by decide) ?_
        refine lv_istore (lv' := [(8, .int 0), (7, .int en_43), (6, .int sp_43), (0, .ref z0), (1, .int k), (2, .long x), (4, .long y)]) hx hb d_Z_same_59 hl (by decide) rfl (fun ls hl => ?_)
        have lp : ∀ (n : Nat) (i : Int32) (ot1 : FL) (H : Heap) (locs : List Loc) (ls : Array Slot), (i.toInt + (n : Int) = 5) → (0 ≤ i.toInt ∧ i.toInt ≤ 4) → (∀ j : Nat, (j : Int) < i.toInt → ot1 j = rg_43 j) → va_P D vwCl ((wZ cI cL z0 y1 y2 y3 y4 y5 y6 y7 y8 y9 y10 y11 y12 y13 y14 mn oo oa ob ss gg zz md sd da_21 rg_43 pp kp ot1 (if wiF k 0 (bl - 1) = 0 then 1 else 0) li bl nw wr ru al sp_43 en_43 ke kb at0) ++ fr) H → va_D A ((wZ cI cL z0 y1 y2 y3 y4 y5 y6 y7 y8 y9 y10 y11 y12 y13 y14 mn oo oa ob ss gg zz md sd da_21 rg_43 pp kp ot1 (if wiF k 0 (bl - 1) = 0 then 1 else 0) li bl nw wr ru al sp_43 en_43 ke kb at0) ++ fr) → va_S A s.heap H locs → lv_has ls 10 [(0, .ref z0), (1, .int k), (2, .long x), (4, .long y), (6, .int sp_43), (7, .int en_43), (8, .int i)] → W p l e ({ frames := 4, cells := 0, slots := 0, locals := 94 } : Room) s m ([.ref z0, .int k, .long x, .long y] : List Value).toArray below meth c H locs 0 0 Q (F0 m 61 ls []) := by
          intro n
          induction n with
          | zero =>
            intro i ot1 H locs ls hn hi hf hP hD hS hl
            exact absurd hn (by omega)
          | succ n ih =>
            intro i ot1 H locs ls hn hi hf hP hD hS hl
            refine lv_iload hx hb d_Z_same_61 (lv_at hl 6 rfl) ?_
            refine lv_iconst (v := 4) hx hb d_Z_same_63 (by decide) ?_
            refine lv_icmp_ge (tgt := 87) hx hb d_Z_same_64 (by decide) (fun c_64 => ?_) (fun c_64 => ?_)
            · have hP := P_rep 14 rfl (fun j hj => hf j (by have := i_le4 c_64; omega)) hD hP
              have hP : va_P D vwCl ((wZ cI cL z0 y1 y2 y3 y4 y5 y6 y7 y8 y9 y10 y11 y12 y13 y14 mn oo oa ob ss gg zz md sd da_21 rg_43 pp kp rg_43 (if wiF k 0 (bl - 1) = 0 then 1 else 0) li bl nw wr ru al sp_43 en_43 ke kb at0) ++ fr) H := hP
              have hD : va_D A ((wZ cI cL z0 y1 y2 y3 y4 y5 y6 y7 y8 y9 y10 y11 y12 y13 y14 mn oo oa ob ss gg zz md sd da_21 rg_43 pp kp rg_43 (if wiF k 0 (bl - 1) = 0 then 1 else 0) li bl nw wr ru al sp_43 en_43 ke kb at0) ++ fr) := va_D.set (p := 14) hD rfl
              refine lv_aload_n hx hb d_Z_same_87 rfl (lv_at hl 0 rfl) ?_
              refine lv_lload_n hx hb d_Z_same_88 rfl (lv_at hl 2 rfl) ?_
              refine lv_lload hx hb d_Z_same_89 (lv_at hl 3 rfl) ?_
              refine goMv (va_runV (As := [.long x, .long y]) (rest := []) ⟨hx, hb, hml, hown, hts⟩ (c_Z_begin l D cI cL cO z0 y1 y2 y3 y4 y5 y6 y7 y8 y9 y10 y11 y12 y13 y14 mn oo oa ob ss gg zz md sd da_21 rg_43 pp kp rg_43 (if wiF k 0 (bl - 1) = 0 then 1 else 0) li bl nw wr ru al sp_43 en_43 ke kb at0 fr x y H.size) (cwV 2 hts (gBIG (m4 k_ml_Z_137 k_im_Z_begin k_sel_Z_begin k_ini_Z) k_co_Z_begin) rfl rfl rfl (by decide +kernel) ⟨Nat.le_of_ble_eq_true rfl, Nat.le_of_ble_eq_true rfl⟩) ⟨PM.bl, va_recv hK.1 hP (ci := 5) (q0 := 0) rfl rfl, PM.pre hP hD hK⟩ rfl rfl hl.1 rfl (lv_room (Nat.le_of_ble_eq_true rfl)) d_Z_same_91 ⟨Nat.le_of_ble_eq_true rfl, Nat.le_of_ble_eq_true rfl⟩) hD hS hA (fun u H locs hw hP hD hS => ?_)
              obtain rfl := hw
              have hP : va_P D vwCl ((wZ cI cL z0 y1 y2 y3 y4 y5 y6 y7 y8 y9 y10 y11 y12 y13 y14 mn oo oa ob ss gg zz md sd da_21 (begR x y) pp kp rg_43 (if wiF k 0 (bl - 1) = 0 then 1 else 0) li bl nw wr ru al 0 0 ke kb at0) ++ fr) H := hP
              have hD : va_D A ((wZ cI cL z0 y1 y2 y3 y4 y5 y6 y7 y8 y9 y10 y11 y12 y13 y14 mn oo oa ob ss gg zz md sd da_21 (begR x y) pp kp rg_43 (if wiF k 0 (bl - 1) = 0 then 1 else 0) li bl nw wr ru al 0 0 ke kb at0) ++ fr) := hD
              refine lv_aload_n hx hb d_Z_same_94 rfl (lv_at hl 0 rfl) ?_
              refine lv_iload_n hx hb d_Z_same_95 rfl (lv_at hl 1 rfl) ?_
              refine goMv (va_runV (As := [.int k]) (rest := []) ⟨hx, hb, hml, hown, hts⟩ (c_Z_runBytes l D cI cL cO z0 y1 y2 y3 y4 y5 y6 y7 y8 y9 y10 y11 y12 y13 y14 mn oo oa ob ss gg zz md sd da_21 (begR x y) pp kp rg_43 (if wiF k 0 (bl - 1) = 0 then 1 else 0) li bl nw wr ru al 0 0 ke kb at0 fr k hzz (k_t (wi_k hbl c_5)) (hY7.v (k_t (wi_k hbl c_5))) hv0 rfl rfl H.size) (cwV 1 hts (gBIG (m4 k_ml_Z_145 k_im_Z_runBytes k_sel_Z_runBytes k_ini_Z) k_co_Z_runBytes) rfl rfl rfl (by decide +kernel) ⟨Nat.le_of_ble_eq_true rfl, Nat.le_of_ble_eq_true rfl⟩) ⟨PM.bl, va_recv hK.1 hP (ci := 5) (q0 := 0) rfl rfl, PM.pre hP hD hK⟩ rfl rfl hl.1 rfl (lv_room (Nat.le_of_ble_eq_true rfl)) d_Z_same_96 ⟨Nat.le_of_ble_eq_true rfl, Nat.le_of_ble_eq_true rfl⟩) hD hS hA (fun u H locs hw hP hD hS => ?_)
              obtain ⟨rg_96, pp_96, sp_96, en_96⟩ := u
              have e_96 : rg_96 = (byL (vw 300 md k) (zz k.toNatClampNeg) 600301 0 0 (begR x y) (pp, 0) 0).1 ∧ sp_96 = (byL (vw 300 md k) (zz k.toNatClampNeg) 600301 0 0 (begR x y) (pp, 0) 0).2.2.1 ∧ en_96 = (byL (vw 300 md k) (zz k.toNatClampNeg) 600301 0 0 (begR x y) (pp, 0) 0).2.2.2 := hw
              have hP : va_P D vwCl ((wZ cI cL z0 y1 y2 y3 y4 y5 y6 y7 y8 y9 y10 y11 y12 y13 y14 mn oo oa ob ss gg zz md sd da_21 rg_96 pp_96 kp rg_43 (if wiF k 0 (bl - 1) = 0 then 1 else 0) li bl nw wr ru al sp_96 en_96 ke kb at0) ++ fr) H := hP
              have hD : va_D A ((wZ cI cL z0 y1 y2 y3 y4 y5 y6 y7 y8 y9 y10 y11 y12 y13 y14 mn oo oa ob ss gg zz md sd da_21 rg_96 pp_96 kp rg_43 (if wiF k 0 (bl - 1) = 0 then 1 else 0) li bl nw wr ru al sp_96 en_96 ke kb at0) ++ fr) := hD
              refine lv_aload_n hx hb d_Z_same_99 rfl (lv_at hl 0 rfl) ?_
              refine va_get (ci := 5) (v := .int sp_96) (C := R_Z) (T := T_Z) (N := 26) hx hb ht in_Z hown hK.1 hP 0 rfl rfl 19 (by decide) (ht _ k_fl_Z_124) (fun _ h9 => h9) rfl d_Z_same_100 ?_
              refine lv_iload hx hb d_Z_same_103 (lv_at hl 4 rfl) ?_
              refine lv_icmp_ne (tgt := 121) hx hb d_Z_same_105 (by decide) (fun c_105 => ?_) (fun c_105 => ?_)
              · refine lv_iconst (v := 0) hx hb d_Z_same_121 (by decide) ?_
                refine lv_istore (lv' := [(8, .int 0), (0, .ref z0), (1, .int k), (2, .long x), (4, .long y), (6, .int sp_43), (7, .int en_43)]) hx hb d_Z_same_122 hl (by decide) rfl (fun ls hl => ?_)
                refine lv_iconst (v := 0) hx hb d_Z_same_124 (by decide) ?_
                refine lv_istore (lv' := [(9, .int 0), (8, .int 0), (0, .ref z0), (1, .int k), (2, .long x), (4, .long y), (6, .int sp_43), (7, .int en_43)]) hx hb d_Z_same_125 hl (by decide) rfl (fun ls hl => ?_)
                have lp : ∀ (n : Nat) (q : Int32) (i : Int32) (H : Heap) (locs : List Loc) (ls : Array Slot), (i.toInt + (n : Int) = 5) → (0 ≤ i.toInt ∧ i.toInt ≤ 4) → (q = 0 ∨ q = 1) → (zsL rg_43 rg_96 n i q = zsA rg_43 rg_96 0) → va_P D vwCl ((wZ cI cL z0 y1 y2 y3 y4 y5 y6 y7 y8 y9 y10 y11 y12 y13 y14 mn oo oa ob ss gg zz md sd da_21 rg_96 pp_96 kp rg_43 (if wiF k 0 (bl - 1) = 0 then 1 else 0) li bl nw wr ru al sp_96 en_96 ke kb at0) ++ fr) H → va_D A ((wZ cI cL z0 y1 y2 y3 y4 y5 y6 y7 y8 y9 y10 y11 y12 y13 y14 mn oo oa ob ss gg zz md sd da_21 rg_96 pp_96 kp rg_43 (if wiF k 0 (bl - 1) = 0 then 1 else 0) li bl nw wr ru al sp_96 en_96 ke kb at0) ++ fr) → va_S A s.heap H locs → lv_has ls 10 [(0, .ref z0), (1, .int k), (2, .long x), (4, .long y), (6, .int sp_43), (7, .int en_43), (8, .int q), (9, .int i)] → W p l e ({ frames := 4, cells := 0, slots := 0, locals := 94 } : Room) s m ([.ref z0, .int k, .long x, .long y] : List Value).toArray below meth c H locs 0 0 Q (F0 m 127 ls []) := by
                  intro n
                  induction n with
                  | zero =>
                    intro q i H locs ls hn hi hq hF hP hD hS hl
                    exact absurd hn (by omega)
                  | succ n ih =>
                    intro q i H locs ls hn hi hq hF hP hD hS hl
                    refine lv_iload hx hb d_Z_same_127 (lv_at hl 7 rfl) ?_
                    refine lv_iconst (v := 4) hx hb d_Z_same_129 (by decide) ?_
                    refine lv_icmp_ge (tgt := 169) hx hb d_Z_same_130 (by decide) (fun c_130 => ?_) (fun c_130 => ?_)
                    · refine lv_iload hx hb d_Z_same_169 (lv_at hl 6 rfl) ?_
                      rw [hQ]; exact retMz (w1 := fun u : Int32 × Fn × FL × FL × Int32 × Int32 × FL => ((wZ cI cL z0 y1 y2 y3 y4 y5 y6 y7 y8 y9 y10 y11 y12 y13 y14 mn oo oa ob ss gg zz md sd u.2.1 u.2.2.1 u.2.2.2.1 kp u.2.2.2.2.2.2 u.1 li bl nw wr ru al u.2.2.2.2.1 u.2.2.2.2.2.1 ke kb at0) ++ fr)) (if wiF k 0 (bl - 1) = 0 then 1 else 0, da_21, rg_96, pp_96, sp_96, en_96, rg_43) hx hb hr hlocks (nz01 hq) hP hD hS (Or.inr ⟨c_5, Or.inr ⟨c_16, hv0, if_neg c_5, (by simp only [zsL, if_pos c_130] at hF; rw [hF]; simp only [zsmF, ← e_43, ← e_96.1, ← e_96.2.1, ← e_96.2.2, if_neg c_105])⟩⟩) d_Z_same_171
                    · refine lv_iload hx hb d_Z_same_133 (lv_at hl 6 rfl) ?_
                      refine lv_if_eq (tgt := 160) hx hb d_Z_same_135 (by decide) (fun c_135 => ?_) (fun c_135 => ?_)
                      · refine lv_iconst (v := 0) hx hb d_Z_same_160 (by decide) ?_
                        refine lv_istore (lv' := [(8, .int 0), (0, .ref z0), (1, .int k), (2, .long x), (4, .long y), (6, .int sp_43), (7, .int en_43), (9, .int i)]) hx hb d_Z_same_161 hl (by decide) rfl (fun ls hl => ?_)
                        refine lv_iinc (v := i + 1) (lv' := [(9, .int (i + 1)), (8, .int 0), (0, .ref z0), (1, .int k), (2, .long x), (4, .long y), (6, .int sp_43), (7, .int en_43)]) hx hb d_Z_same_163 hl (k := 7) rfl rfl (by decide) rfl (fun ls hl => ?_)
                        refine lv_goto (tgt := 127) hx hb d_Z_same_166 (by decide) ?_
                        exact ih 0 (i + 1) _ _ ls (by rw [i32_1 (by omega)]; omega) (by rw [i32_1 (by omega)]; have := i_lt c_130; have h3 : (4 : Int32).toInt = 4 := (by decide); omega) (by first | exact Or.inl rfl | exact Or.inr rfl) (by rw [← hF]; simp only [zsL, if_neg c_5, if_neg c_16, if_pos c_24, if_pos c_64, if_neg c_105, if_neg c_130, if_pos c_135]) hP hD hS (lv_sub hl [2, 3, 4, 5, 6, 7, 1, 0] rfl)
                      · refine lv_aload_n hx hb d_Z_same_138 rfl (lv_at hl 0 rfl) ?_
                        refine va_get (ci := 5) (v := .ref y14) (C := R_Z) (T := T_Z) (N := 26) hx hb ht in_Z hown hK.1 hP 0 rfl rfl 22 (by decide) (ht _ k_fl_Z_50) (fun _ h9 => h9) rfl d_Z_same_139 ?_
                        refine lv_iload hx hb d_Z_same_142 (lv_at hl 7 rfl) ?_
                        refine va_lald hx hb hK.1 hP 14 1 rfl rfl (in_of (N := 4) (by decide) (nn_of hi.1) c_130) d_Z_same_144 ?_
                        refine lv_aload_n hx hb d_Z_same_145 rfl (lv_at hl 0 rfl) ?_
                        refine va_get (ci := 5) (v := .ref y11) (C := R_Z) (T := T_Z) (N := 26) hx hb ht in_Z hown hK.1 hP 0 rfl rfl 17 (by decide) (ht _ k_fl_Z_40) (fun _ h9 => h9) rfl d_Z_same_146 ?_
                        refine lv_iload hx hb d_Z_same_149 (lv_at hl 7 rfl) ?_
                        refine va_lald hx hb hK.1 hP 11 1 rfl rfl (in_of (N := 4) (by decide) (nn_of hi.1) c_130) d_Z_same_151 ?_
                        refine W.lcmp hx hb d_Z_same_152 ?_
                        refine lv_if_ne (tgt := 160) hx hb d_Z_same_153 (by decide) (fun c_153 => ?_) (fun c_153 => ?_)
                        · refine lv_iconst (v := 0) hx hb d_Z_same_160 (by decide) ?_
                          refine lv_istore (lv' := [(8, .int 0), (0, .ref z0), (1, .int k), (2, .long x), (4, .long y), (6, .int sp_43), (7, .int en_43), (9, .int i)]) hx hb d_Z_same_161 hl (by decide) rfl (fun ls hl => ?_)
                          refine lv_iinc (v := i + 1) (lv' := [(9, .int (i + 1)), (8, .int 0), (0, .ref z0), (1, .int k), (2, .long x), (4, .long y), (6, .int sp_43), (7, .int en_43)]) hx hb d_Z_same_163 hl (k := 7) rfl rfl (by decide) rfl (fun ls hl => ?_)
                          refine lv_goto (tgt := 127) hx hb d_Z_same_166 (by decide) ?_
                          exact ih 0 (i + 1) _ _ ls (by rw [i32_1 (by omega)]; omega) (by rw [i32_1 (by omega)]; have := i_lt c_130; have h3 : (4 : Int32).toInt = 4 := (by decide); omega) (by first | exact Or.inl rfl | exact Or.inr rfl) (by rw [← hF]; simp only [zsL, if_neg c_5, if_neg c_16, if_pos c_24, if_pos c_64, if_neg c_105, if_neg c_130, if_neg c_135, if_neg c_153]) hP hD hS (lv_sub hl [2, 3, 4, 5, 6, 7, 1, 0] rfl)
                        · refine lv_iconst (v := 1) hx hb d_Z_same_156 (by decide) ?_
                          refine lv_goto (tgt := 161) hx hb d_Z_same_157 (by decide) ?_
                          refine lv_istore (lv' := [(8, .int 1), (0, .ref z0), (1, .int k), (2, .long x), (4, .long y), (6, .int sp_43), (7, .int en_43), (9, .int i)]) hx hb d_Z_same_161 hl (by decide) rfl (fun ls hl => ?_)
                          refine lv_iinc (v := i + 1) (lv' := [(9, .int (i + 1)), (8, .int 1), (0, .ref z0), (1, .int k), (2, .long x), (4, .long y), (6, .int sp_43), (7, .int en_43)]) hx hb d_Z_same_163 hl (k := 7) rfl rfl (by decide) rfl (fun ls hl => ?_)
                          refine lv_goto (tgt := 127) hx hb d_Z_same_166 (by decide) ?_
                          exact ih 1 (i + 1) _ _ ls (by rw [i32_1 (by omega)]; omega) (by rw [i32_1 (by omega)]; have := i_lt c_130; have h3 : (4 : Int32).toInt = 4 := (by decide); omega) (by first | exact Or.inl rfl | exact Or.inr rfl) (by rw [← hF]; simp only [zsL, if_neg c_5, if_neg c_16, if_pos c_24, if_pos c_64, if_neg c_105, if_neg c_130, if_neg c_135, if_pos c_153]) hP hD hS (lv_sub hl [2, 3, 4, 5, 6, 7, 1, 0] rfl)
                exact lp 5 0 0 _ _ ls (by decide) (by decide) (by decide) rfl hP hD hS (lv_sub hl [2, 3, 4, 5, 6, 7, 1, 0] rfl)
              · refine lv_aload_n hx hb d_Z_same_108 rfl (lv_at hl 0 rfl) ?_
                refine va_get (ci := 5) (v := .int en_96) (C := R_Z) (T := T_Z) (N := 26) hx hb ht in_Z hown hK.1 hP 0 rfl rfl 20 (by decide) (ht _ k_fl_Z_127) (fun _ h9 => h9) rfl d_Z_same_109 ?_
                refine lv_iload hx hb d_Z_same_112 (lv_at hl 5 rfl) ?_
                refine lv_icmp_ne (tgt := 121) hx hb d_Z_same_114 (by decide) (fun c_114 => ?_) (fun c_114 => ?_)
                · refine lv_iconst (v := 0) hx hb d_Z_same_121 (by decide) ?_
                  refine lv_istore (lv' := [(8, .int 0), (0, .ref z0), (1, .int k), (2, .long x), (4, .long y), (6, .int sp_43), (7, .int en_43)]) hx hb d_Z_same_122 hl (by decide) rfl (fun ls hl => ?_)
                  refine lv_iconst (v := 0) hx hb d_Z_same_124 (by decide) ?_
                  refine lv_istore (lv' := [(9, .int 0), (8, .int 0), (0, .ref z0), (1, .int k), (2, .long x), (4, .long y), (6, .int sp_43), (7, .int en_43)]) hx hb d_Z_same_125 hl (by decide) rfl (fun ls hl => ?_)
                  have lp : ∀ (n : Nat) (q : Int32) (i : Int32) (H : Heap) (locs : List Loc) (ls : Array Slot), (i.toInt + (n : Int) = 5) → (0 ≤ i.toInt ∧ i.toInt ≤ 4) → (q = 0 ∨ q = 1) → (zsL rg_43 rg_96 n i q = zsA rg_43 rg_96 0) → va_P D vwCl ((wZ cI cL z0 y1 y2 y3 y4 y5 y6 y7 y8 y9 y10 y11 y12 y13 y14 mn oo oa ob ss gg zz md sd da_21 rg_96 pp_96 kp rg_43 (if wiF k 0 (bl - 1) = 0 then 1 else 0) li bl nw wr ru al sp_96 en_96 ke kb at0) ++ fr) H → va_D A ((wZ cI cL z0 y1 y2 y3 y4 y5 y6 y7 y8 y9 y10 y11 y12 y13 y14 mn oo oa ob ss gg zz md sd da_21 rg_96 pp_96 kp rg_43 (if wiF k 0 (bl - 1) = 0 then 1 else 0) li bl nw wr ru al sp_96 en_96 ke kb at0) ++ fr) → va_S A s.heap H locs → lv_has ls 10 [(0, .ref z0), (1, .int k), (2, .long x), (4, .long y), (6, .int sp_43), (7, .int en_43), (8, .int q), (9, .int i)] → W p l e ({ frames := 4, cells := 0, slots := 0, locals := 94 } : Room) s m ([.ref z0, .int k, .long x, .long y] : List Value).toArray below meth c H locs 0 0 Q (F0 m 127 ls []) := by
                    intro n
                    induction n with
                    | zero =>
                      intro q i H locs ls hn hi hq hF hP hD hS hl
                      exact absurd hn (by omega)
                    | succ n ih =>
                      intro q i H locs ls hn hi hq hF hP hD hS hl
                      refine lv_iload hx hb d_Z_same_127 (lv_at hl 7 rfl) ?_
                      refine lv_iconst (v := 4) hx hb d_Z_same_129 (by decide) ?_
                      refine lv_icmp_ge (tgt := 169) hx hb d_Z_same_130 (by decide) (fun c_130 => ?_) (fun c_130 => ?_)
                      · refine lv_iload hx hb d_Z_same_169 (lv_at hl 6 rfl) ?_
                        rw [hQ]; exact retMz (w1 := fun u : Int32 × Fn × FL × FL × Int32 × Int32 × FL => ((wZ cI cL z0 y1 y2 y3 y4 y5 y6 y7 y8 y9 y10 y11 y12 y13 y14 mn oo oa ob ss gg zz md sd u.2.1 u.2.2.1 u.2.2.2.1 kp u.2.2.2.2.2.2 u.1 li bl nw wr ru al u.2.2.2.2.1 u.2.2.2.2.2.1 ke kb at0) ++ fr)) (if wiF k 0 (bl - 1) = 0 then 1 else 0, da_21, rg_96, pp_96, sp_96, en_96, rg_43) hx hb hr hlocks (nz01 hq) hP hD hS (Or.inr ⟨c_5, Or.inr ⟨c_16, hv0, if_neg c_5, (by simp only [zsL, if_pos c_130] at hF; rw [hF]; simp only [zsmF, ← e_43, ← e_96.1, ← e_96.2.1, ← e_96.2.2, if_pos c_105, if_neg c_114])⟩⟩) d_Z_same_171
                      · refine lv_iload hx hb d_Z_same_133 (lv_at hl 6 rfl) ?_
                        refine lv_if_eq (tgt := 160) hx hb d_Z_same_135 (by decide) (fun c_135 => ?_) (fun c_135 => ?_)
                        · refine lv_iconst (v := 0) hx hb d_Z_same_160 (by decide) ?_
                          refine lv_istore (lv' := [(8, .int 0), (0, .ref z0), (1, .int k), (2, .long x), (4, .long y), (6, .int sp_43), (7, .int en_43), (9, .int i)]) hx hb d_Z_same_161 hl (by decide) rfl (fun ls hl => ?_)
                          refine lv_iinc (v := i + 1) (lv' := [(9, .int (i + 1)), (8, .int 0), (0, .ref z0), (1, .int k), (2, .long x), (4, .long y), (6, .int sp_43), (7, .int en_43)]) hx hb d_Z_same_163 hl (k := 7) rfl rfl (by decide) rfl (fun ls hl => ?_)
                          refine lv_goto (tgt := 127) hx hb d_Z_same_166 (by decide) ?_
                          exact ih 0 (i + 1) _ _ ls (by rw [i32_1 (by omega)]; omega) (by rw [i32_1 (by omega)]; have := i_lt c_130; have h3 : (4 : Int32).toInt = 4 := (by decide); omega) (by first | exact Or.inl rfl | exact Or.inr rfl) (by rw [← hF]; simp only [zsL, if_neg c_5, if_neg c_16, if_pos c_24, if_pos c_64, if_pos c_105, if_neg c_114, if_neg c_130, if_pos c_135]) hP hD hS (lv_sub hl [2, 3, 4, 5, 6, 7, 1, 0] rfl)
                        · refine lv_aload_n hx hb d_Z_same_138 rfl (lv_at hl 0 rfl) ?_
                          refine va_get (ci := 5) (v := .ref y14) (C := R_Z) (T := T_Z) (N := 26) hx hb ht in_Z hown hK.1 hP 0 rfl rfl 22 (by decide) (ht _ k_fl_Z_50) (fun _ h9 => h9) rfl d_Z_same_139 ?_
                          refine lv_iload hx hb d_Z_same_142 (lv_at hl 7 rfl) ?_
                          refine va_lald hx hb hK.1 hP 14 1 rfl rfl (in_of (N := 4) (by decide) (nn_of hi.1) c_130) d_Z_same_144 ?_
                          refine lv_aload_n hx hb d_Z_same_145 rfl (lv_at hl 0 rfl) ?_
                          refine va_get (ci := 5) (v := .ref y11) (C := R_Z) (T := T_Z) (N := 26) hx hb ht in_Z hown hK.1 hP 0 rfl rfl 17 (by decide) (ht _ k_fl_Z_40) (fun _ h9 => h9) rfl d_Z_same_146 ?_
                          refine lv_iload hx hb d_Z_same_149 (lv_at hl 7 rfl) ?_
                          refine va_lald hx hb hK.1 hP 11 1 rfl rfl (in_of (N := 4) (by decide) (nn_of hi.1) c_130) d_Z_same_151 ?_
                          refine W.lcmp hx hb d_Z_same_152 ?_
                          refine lv_if_ne (tgt := 160) hx hb d_Z_same_153 (by decide) (fun c_153 => ?_) (fun c_153 => ?_)
                          · refine lv_iconst (v := 0) hx hb d_Z_same_160 (by decide) ?_
                            refine lv_istore (lv' := [(8, .int 0), (0, .ref z0), (1, .int k), (2, .long x), (4, .long y), (6, .int sp_43), (7, .int en_43), (9, .int i)]) hx hb d_Z_same_161 hl (by decide) rfl (fun ls hl => ?_)
                            refine lv_iinc (v := i + 1) (lv' := [(9, .int (i + 1)), (8, .int 0), (0, .ref z0), (1, .int k), (2, .long x), (4, .long y), (6, .int sp_43), (7, .int en_43)]) hx hb d_Z_same_163 hl (k := 7) rfl rfl (by decide) rfl (fun ls hl => ?_)
                            refine lv_goto (tgt := 127) hx hb d_Z_same_166 (by decide) ?_
                            exact ih 0 (i + 1) _ _ ls (by rw [i32_1 (by omega)]; omega) (by rw [i32_1 (by omega)]; have := i_lt c_130; have h3 : (4 : Int32).toInt = 4 := (by decide); omega) (by first | exact Or.inl rfl | exact Or.inr rfl) (by rw [← hF]; simp only [zsL, if_neg c_5, if_neg c_16, if_pos c_24, if_pos c_64, if_pos c_105, if_neg c_114, if_neg c_130, if_neg c_135, if_neg c_153]) hP hD hS (lv_sub hl [2, 3, 4, 5, 6, 7, 1, 0] rfl)
                          · refine lv_iconst (v := 1) hx hb d_Z_same_156 (by decide) ?_
                            refine lv_goto (tgt := 161) hx hb d_Z_same_157 (by decide) ?_
                            refine lv_istore (lv' := [(8, .int 1), (0, .ref z0), (1, .int k), (2, .long x), (4, .long y), (6, .int sp_43), (7, .int en_43), (9, .int i)]) hx hb d_Z_same_161 hl (by decide) rfl (fun ls hl => ?_)
                            refine lv_iinc (v := i + 1) (lv' := [(9, .int (i + 1)), (8, .int 1), (0, .ref z0), (1, .int k), (2, .long x), (4, .long y), (6, .int sp_43), (7, .int en_43)]) hx hb d_Z_same_163 hl (k := 7) rfl rfl (by decide) rfl (fun ls hl => ?_)
                            refine lv_goto (tgt := 127) hx hb d_Z_same_166 (by decide) ?_
                            exact ih 1 (i + 1) _ _ ls (by rw [i32_1 (by omega)]; omega) (by rw [i32_1 (by omega)]; have := i_lt c_130; have h3 : (4 : Int32).toInt = 4 := (by decide); omega) (by first | exact Or.inl rfl | exact Or.inr rfl) (by rw [← hF]; simp only [zsL, if_neg c_5, if_neg c_16, if_pos c_24, if_pos c_64, if_pos c_105, if_neg c_114, if_neg c_130, if_neg c_135, if_pos c_153]) hP hD hS (lv_sub hl [2, 3, 4, 5, 6, 7, 1, 0] rfl)
                  exact lp 5 0 0 _ _ ls (by decide) (by decide) (by decide) rfl hP hD hS (lv_sub hl [2, 3, 4, 5, 6, 7, 1, 0] rfl)
                · refine lv_iconst (v := 1) hx hb d_Z_same_117 (by decide) ?_
                  refine lv_goto (tgt := 122) hx hb d_Z_same_118 (by decide) ?_
                  refine lv_istore (lv' := [(8, .int 1), (0, .ref z0), (1, .int k), (2, .long x), (4, .long y), (6, .int sp_43), (7, .int en_43)]) hx hb d_Z_same_122 hl (by decide) rfl (fun ls hl => ?_)
                  refine lv_iconst (v := 0) hx hb d_Z_same_124 (by decide) ?_
                  refine lv_istore (lv' := [(9, .int 0), (8, .int 1), (0, .ref z0), (1, .int k), (2, .long x), (4, .long y), (6, .int sp_43), (7, .int en_43)]) hx hb d_Z_same_125 hl (by decide) rfl (fun ls hl => ?_)
                  have lp : ∀ (n : Nat) (q : Int32) (i : Int32) (H : Heap) (locs : List Loc) (ls : Array Slot), (i.toInt + (n : Int) = 5) → (0 ≤ i.toInt ∧ i.toInt ≤ 4) → (q = 0 ∨ q = 1) → (zsL rg_43 rg_96 n i q = zsA rg_43 rg_96 1) → va_P D vwCl ((wZ cI cL z0 y1 y2 y3 y4 y5 y6 y7 y8 y9 y10 y11 y12 y13 y14 mn oo oa ob ss gg zz md sd da_21 rg_96 pp_96 kp rg_43 (if wiF k 0 (bl - 1) = 0 then 1 else 0) li bl nw wr ru al sp_96 en_96 ke kb at0) ++ fr) H → va_D A ((wZ cI cL z0 y1 y2 y3 y4 y5 y6 y7 y8 y9 y10 y11 y12 y13 y14 mn oo oa ob ss gg zz md sd da_21 rg_96 pp_96 kp rg_43 (if wiF k 0 (bl - 1) = 0 then 1 else 0) li bl nw wr ru al sp_96 en_96 ke kb at0) ++ fr) → va_S A s.heap H locs → lv_has ls 10 [(0, .ref z0), (1, .int k), (2, .long x), (4, .long y), (6, .int sp_43), (7, .int en_43), (8, .int q), (9, .int i)] → W p l e ({ frames := 4, cells := 0, slots := 0, locals := 94 } : Room) s m ([.ref z0, .int k, .long x, .long y] : List Value).toArray below meth c H locs 0 0 Q (F0 m 127 ls []) := by
                    intro n
                    induction n with
                    | zero =>
                      intro q i H locs ls hn hi hq hF hP hD hS hl
                      exact absurd hn (by omega)
                    | succ n ih =>
                      intro q i H locs ls hn hi hq hF hP hD hS hl
                      refine lv_iload hx hb d_Z_same_127 (lv_at hl 7 rfl) ?_
                      refine lv_iconst (v := 4) hx hb d_Z_same_129 (by decide) ?_
                      refine lv_icmp_ge (tgt := 169) hx hb d_Z_same_130 (by decide) (fun c_130 => ?_) (fun c_130 => ?_)
                      · refine lv_iload hx hb d_Z_same_169 (lv_at hl 6 rfl) ?_
                        rw [hQ]; exact retMz (w1 := fun u : Int32 × Fn × FL × FL × Int32 × Int32 × FL => ((wZ cI cL z0 y1 y2 y3 y4 y5 y6 y7 y8 y9 y10 y11 y12 y13 y14 mn oo oa ob ss gg zz md sd u.2.1 u.2.2.1 u.2.2.2.1 kp u.2.2.2.2.2.2 u.1 li bl nw wr ru al u.2.2.2.2.1 u.2.2.2.2.2.1 ke kb at0) ++ fr)) (if wiF k 0 (bl - 1) = 0 then 1 else 0, da_21, rg_96, pp_96, sp_96, en_96, rg_43) hx hb hr hlocks (nz01 hq) hP hD hS (Or.inr ⟨c_5, Or.inr ⟨c_16, hv0, if_neg c_5, (by simp only [zsL, if_pos c_130] at hF; rw [hF]; simp only [zsmF, ← e_43, ← e_96.1, ← e_96.2.1, ← e_96.2.2, if_pos c_105, if_pos c_114])⟩⟩) d_Z_same_171
                      · refine lv_iload hx hb d_Z_same_133 (lv_at hl 6 rfl) ?_
                        refine lv_if_eq (tgt := 160) hx hb d_Z_same_135 (by decide) (fun c_135 => ?_) (fun c_135 => ?_)
                        · refine lv_iconst (v := 0) hx hb d_Z_same_160 (by decide) ?_
                          refine lv_istore (lv' := [(8, .int 0), (0, .ref z0), (1, .int k), (2, .long x), (4, .long y), (6, .int sp_43), (7, .int en_43), (9, .int i)]) hx hb d_Z_same_161 hl (by decide) rfl (fun ls hl => ?_)
                          refine lv_iinc (v := i + 1) (lv' := [(9, .int (i + 1)), (8, .int 0), (0, .ref z0), (1, .int k), (2, .long x), (4, .long y), (6, .int sp_43), (7, .int en_43)]) hx hb d_Z_same_163 hl (k := 7) rfl rfl (by decide) rfl (fun ls hl => ?_)
                          refine lv_goto (tgt := 127) hx hb d_Z_same_166 (by decide) ?_
                          exact ih 0 (i + 1) _ _ ls (by rw [i32_1 (by omega)]; omega) (by rw [i32_1 (by omega)]; have := i_lt c_130; have h3 : (4 : Int32).toInt = 4 := (by decide); omega) (by first | exact Or.inl rfl | exact Or.inr rfl) (by rw [← hF]; simp only [zsL, if_neg c_5, if_neg c_16, if_pos c_24, if_pos c_64, if_pos c_105, if_pos c_114, if_neg c_130, if_pos c_135]) hP hD hS (lv_sub hl [2, 3, 4, 5, 6, 7, 1, 0] rfl)
                        · refine lv_aload_n hx hb d_Z_same_138 rfl (lv_at hl 0 rfl) ?_
                          refine va_get (ci := 5) (v := .ref y14) (C := R_Z) (T := T_Z) (N := 26) hx hb ht in_Z hown hK.1 hP 0 rfl rfl 22 (by decide) (ht _ k_fl_Z_50) (fun _ h9 => h9) rfl d_Z_same_139 ?_
                          refine lv_iload hx hb d_Z_same_142 (lv_at hl 7 rfl) ?_
                          refine va_lald hx hb hK.1 hP 14 1 rfl rfl (in_of (N := 4) (by decide) (nn_of hi.1) c_130) d_Z_same_144 ?_
                          refine lv_aload_n hx hb d_Z_same_145 rfl (lv_at hl 0 rfl) ?_
                          refine va_get (ci := 5) (v := .ref y11) (C := R_Z) (T := T_Z) (N := 26) hx hb ht in_Z hown hK.1 hP 0 rfl rfl 17 (by decide) (ht _ k_fl_Z_40) (fun _ h9 => h9) rfl d_Z_same_146 ?_
                          refine lv_iload hx hb d_Z_same_149 (lv_at hl 7 rfl) ?_
                          refine va_lald hx hb hK.1 hP 11 1 rfl rfl (in_of (N := 4) (by decide) (nn_of hi.1) c_130) d_Z_same_151 ?_
                          refine W.lcmp hx hb d_Z_same_152 ?_
                          refine lv_if_ne (tgt := 160) hx hb d_Z_same_153 (by decide) (fun c_153 => ?_) (fun c_153 => ?_)
                          · refine lv_iconst (v := 0) hx hb d_Z_same_160 (by decide) ?_
                            refine lv_istore (lv' := [(8, .int 0), (0, .ref z0), (1, .int k), (2, .long x), (4, .long y), (6, .int sp_43), (7, .int en_43), (9, .int i)]) hx hb d_Z_same_161 hl (by decide) rfl (fun ls hl => ?_)
                            refine lv_iinc (v := i + 1) (lv' := [(9, .int (i + 1)), (8, .int 0), (0, .ref z0), (1, .int k), (2, .long x), (4, .long y), (6, .int sp_43), (7, .int en_43)]) hx hb d_Z_same_163 hl (k := 7) rfl rfl (by decide) rfl (fun ls hl => ?_)
                            refine lv_goto (tgt := 127) hx hb d_Z_same_166 (by decide) ?_
                            exact ih 0 (i + 1) _ _ ls (by rw [i32_1 (by omega)]; omega) (by rw [i32_1 (by omega)]; have := i_lt c_130; have h3 : (4 : Int32).toInt = 4 := (by decide); omega) (by first | exact Or.inl rfl | exact Or.inr rfl) (by rw [← hF]; simp only [zsL, if_neg c_5, if_neg c_16, if_pos c_24, if_pos c_64, if_pos c_105, if_pos c_114, if_neg c_130, if_neg c_135, if_neg c_153]) hP hD hS (lv_sub hl [2, 3, 4, 5, 6, 7, 1, 0] rfl)
                          · refine lv_iconst (v := 1) hx hb d_Z_same_156 (by decide) ?_
                            refine lv_goto (tgt := 161) hx hb d_Z_same_157 (by decide) ?_
                            refine lv_istore (lv' := [(8, .int 1), (0, .ref z0), (1, .int k), (2, .long x), (4, .long y), (6, .int sp_43), (7, .int en_43), (9, .int i)]) hx hb d_Z_same_161 hl (by decide) rfl (fun ls hl => ?_)
                            refine lv_iinc (v := i + 1) (lv' := [(9, .int (i + 1)), (8, .int 1), (0, .ref z0), (1, .int k), (2, .long x), (4, .long y), (6, .int sp_43), (7, .int en_43)]) hx hb d_Z_same_163 hl (k := 7) rfl rfl (by decide) rfl (fun ls hl => ?_)
                            refine lv_goto (tgt := 127) hx hb d_Z_same_166 (by decide) ?_
                            exact ih 1 (i + 1) _ _ ls (by rw [i32_1 (by omega)]; omega) (by rw [i32_1 (by omega)]; have := i_lt c_130; have h3 : (4 : Int32).toInt = 4 := (by decide); omega) (by first | exact Or.inl rfl | exact Or.inr rfl) (by rw [← hF]; simp only [zsL, if_neg c_5, if_neg c_16, if_pos c_24, if_pos c_64, if_pos c_105, if_pos c_114, if_neg c_130, if_neg c_135, if_pos c_153]) hP hD hS (lv_sub hl [2, 3, 4, 5, 6, 7, 1, 0] rfl)
                  exact lp 5 1 0 _ _ ls (by decide) (by decide) (by decide) rfl hP hD hS (lv_sub hl [2, 3, 4, 5, 6, 7, 1, 0] rfl)
            · refine lv_aload_n hx hb d_Z_same_67 rfl (lv_at hl 0 rfl) ?_
              refine va_get (ci := 5) (v := .ref y14) (C := R_Z) (T := T_Z) (N := 26) hx hb ht in_Z hown hK.1 hP 0 rfl rfl 22 (by decide) (ht _ k_fl_Z_50) (fun _ h9 => h9) rfl d_Z_same_68 ?_
              refine lv_iload hx hb d_Z_same_71 (lv_at hl 6 rfl) ?_
              refine lv_aload_n hx hb d_Z_same_73 rfl (lv_at hl 0 rfl) ?_
              refine va_get (ci := 5) (v := .ref y11) (C := R_Z) (T := T_Z) (N := 26) hx hb ht in_Z hown hK.1 hP 0 rfl rfl 17 (by decide) (ht _ k_fl_Z_40) (fun _ h9 => h9) rfl d_Z_same_74 ?_
              refine lv_iload hx hb d_Z_same_77 (lv_at hl 6 rfl) ?_
              refine va_lald hx hb hK.1 hP 11 1 rfl rfl (in_of (N := 4) (by decide) (nn_of hi.1) c_64) d_Z_same_79 ?_
              refine va_last hx hb hK.1 hP hD hS 14 1 rfl rfl (in_of (N := 4) (by decide) (nn_of hi.1) c_64) d_Z_same_80 (fun H locs hP hD hS => ?_)
              have hP : va_P D vwCl ((wZ cI cL z0 y1 y2 y3 y4 y5 y6 y7 y8 y9 y10 y11 y12 y13 y14 mn oo oa ob ss gg zz md sd da_21 rg_43 pp kp (vp_updL ot1 i.toNatClampNeg (rg_43 i.toNatClampNeg)) (if wiF k 0 (bl - 1) = 0 then 1 else 0) li bl nw wr ru al sp_43 en_43 ke kb at0) ++ fr) H := hP
              have hD : va_D A ((wZ cI cL z0 y1 y2 y3 y4 y5 y6 y7 y8 y9 y10 y11 y12 y13 y14 mn oo oa ob ss gg zz md sd da_21 rg_43 pp kp (vp_updL ot1 i.toNatClampNeg (rg_43 i.toNatClampNeg)) (if wiF k 0 (bl - 1) = 0 then 1 else 0) li bl nw wr ru al sp_43 en_43 ke kb at0) ++ fr) := hD
              refine lv_iinc (v := i + 1) (lv' := [(8, .int (i + 1)), (0, .ref z0), (1, .int k), (2, .long x), (4, .long y), (6, .int sp_43), (7, .int en_43)]) hx hb d_Z_same_81 hl (k := 6) rfl rfl (by decide) rfl (fun ls hl => ?_)
              refine lv_goto (tgt := 61) hx hb d_Z_same_84 (by decide) ?_
              exact ih (i + 1) (vp_updL ot1 i.toNatClampNeg (rg_43 i.toNatClampNeg)) _ _ ls (by rw [i32_1 (by omega)]; omega) (by rw [i32_1 (by omega)]; have := i_lt c_64; have h3 : (4 : Int32).toInt = 4 := (by decide); omega) (cp_s hi.1 (by omega) hf) hP hD hS (lv_sub hl [1, 2, 3, 4, 5, 6, 0] rfl)
        exact lp 5 0 ot _ _ ls (by decide) (by decide) (fun j hj => absurd hj (by simp)) hP hD hS (lv_sub hl [3, 4, 5, 6, 2, 1, 0] rfl)
      · refine lv_aload_n hx hb d_Z_same_27 rfl (lv_at hl 0 rfl) ?_
        refine lv_iconst (v := 2) hx hb d_Z_same_28 (by decide) ?_
        refine va_put (ci := 5) (v := .int 2) (ty := .int) (C := R_Z) (T := T_Z) (N := 26) hx hb ht in_Z t_Z t_Z_ok n_Z hown hK.1 hP hD hS 0 rfl rfl 0 (by decide) (ht _ k_fl_Z_57) (fun _ h9 => h9) rfl (by decide +kernel) rfl rfl (Nat.le_of_ble_eq_true rfl) d_Z_same_29 (fun H locs hP hD hS => ?_)
        have hP : va_P D vwCl ((wZ cI cL z0 y1 y2 y3 y4 y5 y6 y7 y8 y9 y10 y11 y12 y13 y14 mn oo oa ob ss gg zz md sd da_21 rg pp kp ot 2 li bl nw wr ru al sp en ke kb at0) ++ fr) H := hP
        have hD : va_D A ((wZ cI cL z0 y1 y2 y3 y4 y5 y6 y7 y8 y9 y10 y11 y12 y13 y14 mn oo oa ob ss gg zz md sd da_21 rg pp kp ot 2 li bl nw wr ru al sp en ke kb at0) ++ fr) := hD
        refine lv_iconst (v := 0) hx hb d_Z_same_32 (by decide) ?_
        rw [hQ]; exact retMz (w1 := fun u : Int32 × Fn × FL × FL × Int32 × Int32 × FL => ((wZ cI cL z0 y1 y2 y3 y4 y5 y6 y7 y8 y9 y10 y11 y12 y13 y14 mn oo oa ob ss gg zz md sd u.2.1 u.2.2.1 u.2.2.2.1 kp u.2.2.2.2.2.2 u.1 li bl nw wr ru al u.2.2.2.2.1 u.2.2.2.2.2.1 ke kb at0) ++ fr)) (2, da_21, rg, pp, sp, en, ot) hx hb hr hlocks rfl hP hD hS (Or.inr ⟨c_5, Or.inl ⟨Or.inr (by rw [← e_21]; intro e9; exact c_24 (by rw [e9]; decide)), rfl, rfl⟩⟩) d_Z_same_33
  · refine lv_iconst (v := 0) hx hb d_Z_same_8 (by decide) ?_
    rw [hQ]; exact retMz (w1 := fun u : Int32 × Fn × FL × FL × Int32 × Int32 × FL => ((wZ cI cL z0 y1 y2 y3 y4 y5 y6 y7 y8 y9 y10 y11 y12 y13 y14 mn oo oa ob ss gg zz md sd u.2.1 u.2.2.1 u.2.2.2.1 kp u.2.2.2.2.2.2 u.1 li bl nw wr ru al u.2.2.2.2.1 u.2.2.2.2.2.1 ke kb at0) ++ fr)) (if wiF k 0 (bl - 1) = 0 then 1 else 0, da, rg, pp, sp, en, ot) hx hb hr hlocks rfl hP hD hS (Or.inl ⟨c_5, rfl, if_pos c_5⟩) d_Z_same_9
