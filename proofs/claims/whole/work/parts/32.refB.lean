theorem i32_mul {x y : Int32} (h1 : -2147483648 ≤ x.toInt * y.toInt) (h2 : x.toInt * y.toInt < 2147483648) : (x * y).toInt = x.toInt * y.toInt := by
  rw [Int32.toInt_mul]
  exact Int.bmod_eq_of_le (by omega) (by omega)
theorem ix60 {P : Prop} {k i : Int32} (hk : 0 ≤ k.toInt ∧ k.toInt < 24 ∧ P) (hi : 0 ≤ i.toInt ∧ i.toInt < 60) : (60 * k + i).toInt = 60 * k.toInt + i.toInt := by
  have h6 : (60 : Int32).toInt = 60 := by decide
  have h : (60 * k).toInt = 60 * k.toInt := by rw [i32_mul (by rw [h6]; omega) (by rw [h6]; omega), h6]
  rw [i32_add (by omega) (by omega), h]
theorem in60 {P : Prop} {k i : Int32} (hk : 0 ≤ k.toInt ∧ k.toInt < 24 ∧ P) (hi : 0 ≤ i.toInt ∧ i.toInt < 60) : vp_in (60 * k + i) 1440 := vp_in_iff.mpr (by rw [ix60 hk hi]; omega)
theorem ix300 {P : Prop} {k i : Int32} (hk : 0 ≤ k.toInt ∧ k.toInt < 24 ∧ P) (hi : 0 ≤ i.toInt ∧ i.toInt < 300) : (300 * k + i).toInt = 300 * k.toInt + i.toInt := by
  have h6 : (300 : Int32).toInt = 300 := by decide
  have h : (300 * k).toInt = 300 * k.toInt := by rw [i32_mul (by rw [h6]; omega) (by rw [h6]; omega), h6]
  rw [i32_add (by omega) (by omega), h]
theorem in300 {P : Prop} {k i : Int32} (hk : 0 ≤ k.toInt ∧ k.toInt < 24 ∧ P) (hi : 0 ≤ i.toInt ∧ i.toInt < 300) : vp_in (300 * k + i) 7200 := vp_in_iff.mpr (by rw [ix300 hk hi]; omega)
theorem kc {P : Prop} {k : Int32} (h : 0 ≤ k.toInt ∧ k.toInt < 24 ∧ P) : k.toNatClampNeg < 24 := by have := clN h.1; omega
theorem mn60 {x : Int32} (h : 0 ≤ x.toInt ∧ x.toInt ≤ 60) (c : ¬ x = 60) : 0 ≤ x.toInt ∧ x.toInt < 60 := by
  have h6 : (60 : Int32).toInt = 60 := by decide
  have : ¬ x.toInt = 60 := fun q => c (Int32.toInt_inj.mp (by rw [h6]; exact q))
  omega
def zinsF (k o x y bl : Int32) (mn oo oa ob ss : Fn) : Int32 × Int32 × Fn × Fn × Fn × Fn × Fn :=
  if wiF k 0 (bl - 1) = 0 then (0, 1, mn, oo, oa, ob, ss) else if zinF o x y = 0 then (0, 2, mn, oo, oa, ob, ss) else if mn k.toNatClampNeg = 60 then (0, 3, mn, oo, oa, ob, ss)
  else (mn k.toNatClampNeg + 1, 0, upd mn k.toNatClampNeg (mn k.toNatClampNeg + 1), upd oo (60 * k + mn k.toNatClampNeg).toNatClampNeg o, upd oa (60 * k + mn k.toNatClampNeg).toNatClampNeg x, upd ob (60 * k + mn k.toNatClampNeg).toNatClampNeg y, upd ss k.toNatClampNeg 0)
def zbatF (k i bl : Int32) (ss zz md : Fn) : Int32 × Int32 :=
  if wiF k 0 (bl - 1) = 0 then (0, 1) else if ss k.toNatClampNeg = 0 then (0, 2) else if wiF i 0 (zz k.toNatClampNeg - 1) = 0 then (0, 3) else (md (300 * k + i).toNatClampNeg, 0)
def zaltF (k i v bl : Int32) (ss zz md : Fn) : Int32 × Int32 × Fn :=
  if wiF k 0 (bl - 1) = 0 then (0, 1, md) else if ss k.toNatClampNeg = 1 then (if wiF i 0 (zz k.toNatClampNeg - 1) = 0 then (0, 3, md) else if wiF v 0 255 = 0 then (0, 3, md) else (md (300 * k + i).toNatClampNeg, 0, upd md (300 * k + i).toNatClampNeg v)) else (0, 2, md)
def zwhaF (k w bl : Int32) (mn ss gg zz : Fn) : Int32 × Int32 :=
  if wiF k 0 (bl - 1) = 0 then (0, 1) else if w = 0 then (ss k.toNatClampNeg, 0) else if w = 1 then (if ss k.toNatClampNeg = 0 then (-1, 0) else (gg k.toNatClampNeg, 0)) else if w = 2 then (mn k.toNatClampNeg, 0) else if w = 3 then (if ss k.toNatClampNeg = 0 then (0, 0) else (zz k.toNatClampNeg, 0)) else (0, 2)
theorem zz_i {x i : Int32} (hz : 0 ≤ x.toInt ∧ x.toInt ≤ 300) (h : ¬ wiF i 0 (x - 1) = 0) : 0 ≤ i.toInt ∧ i.toInt < 300 := by
  have h1 := wi_r h
  rw [i32_m (by omega), Int32.toInt_zero] at h1
  omega

theorem in_w4 {i : Int32} (h : ¬ wiF i 0 3 = 0) : vp_in i 4 := by
  have h1 := wi_r h
  rw [Int32.toInt_zero, show (3 : Int32).toInt = 3 by decide] at h1
  exact vp_in_iff.mpr ⟨h1.1, by omega⟩

abbrev w_Z_instruction : List Cond := .code y_Z_instruction b_Z_instruction 6 (some .int) :: BIG
set_option maxHeartbeats 4000000 in
set_option maxRecDepth 100000 in
theorem c_Z_instruction (l : Launch) (D : va_G) (cI cL cO : ClassId) (z0 : Nat) (y1 : Nat) (y2 : Nat) (y3 : Nat) (y4 : Nat) (y5 : Nat) (y6 : Nat) (y7 : Nat) (y8 : Nat) (y9 : Nat) (y10 : Nat) (y11 : Nat) (y12 : Nat) (y13 : Nat) (y14 : Nat) (mn : Fn) (oo : Fn) (oa : Fn) (ob : Fn) (ss : Fn) (gg : Fn) (zz : Fn) (md : Fn) (sd : Fn) (da : Fn) (rg : FL) (pp : FL) (kp : FL) (ot : FL) (th : Int32) (li : Int32) (bl : Int32) (nw : Int32) (wr : Int32) (ru : Int32) (al : Int32) (sp : Int32) (en : Int32) (ke : Int32) (kb : Int32) (at0 : Int32) (fr : va_W) (k : Int32) (ox : Int32) (x : Int32) (y : Int32) (hbl : 0 ≤ bl.toInt ∧ bl.toInt ≤ 24) (hmn : ∀ j, j < 24 → 0 ≤ (mn j).toInt ∧ (mn j).toInt ≤ 60) : CMi l y_Z_instruction w_Z_instruction ({ frames := 2, cells := 0, slots := 0, locals := 44 }) D cI cL cO [.ref z0, .int k, .int ox, .int x, .int y] ((wZ cI cL z0 y1 y2 y3 y4 y5 y6 y7 y8 y9 y10 y11 y12 y13 y14 mn oo oa ob ss gg zz md sd da rg pp kp ot th li bl nw wr ru al sp en ke kb at0) ++ fr) (fun (r : Int32) (u : Int32 × Fn × Fn × Fn × Fn × Fn) => (r, u.1, u.2.1, u.2.2.1, u.2.2.2.1, u.2.2.2.2.1, u.2.2.2.2.2) = zinsF k ox x y bl mn oo oa ob ss) (fun u : Int32 × Fn × Fn × Fn × Fn × Fn => ((wZ cI cL z0 y1 y2 y3 y4 y5 y6 y7 y8 y9 y10 y11 y12 y13 y14 u.2.1 u.2.2.1 u.2.2.2.1 u.2.2.2.2.1 u.2.2.2.2.2 gg zz md sd da rg pp kp ot u.1 li bl nw wr ru al sp en ke kb at0) ++ fr)) 0 0 := by
  refine ofMi (cc := b_Z_instruction) (maxL := 6) (ret := (some .int)) (by decide) rfl (Nat.le_of_ble_eq_true rfl) ?_
  intro p e s m below meth c A ls H Q hQ hx hb hr hlocks hin hts hown hml hP hK hD hS hA hl
  have hl : lv_has ls 6 [(0, .ref z0), (1, .int k), (2, .int ox), (3, .int x), (4, .int y)] := hl
  have hown : s.vm.findClass R_Z = some m.cls := hown
  have ht : ∀ w ∈ BIG, w.before _ s = true := fun w h => hts w (List.mem_cons_of_mem _ h)
  refine lv_aload_n hx hb d_Z_instruction_0 rfl (lv_at hl 0 rfl) ?_
  refine lv_iload_n hx hb d_Z_instruction_1 rfl (lv_at hl 1 rfl) ?_
  refine goMi (va_runV (As := [.int k]) (rest := []) ⟨hx, hb, hml, hown, hts⟩ (c_Z_isBlock l D cI cL cO z0 y1 y2 y3 y4 y5 y6 y7 y8 y9 y10 y11 y12 y13 y14 mn oo oa ob ss gg zz md sd da rg pp kp ot th li bl nw wr ru al sp en ke kb at0 fr k H.size) (cwV 1 hts (gBIG (m4 k_ml_Z_71 k_im_Z_isBlock k_sel_Z_isBlock k_ini_Z) k_co_Z_isBlock) rfl rfl rfl (by decide +kernel) ⟨Nat.le_of_ble_eq_true rfl, Nat.le_of_ble_eq_true rfl⟩) ⟨PM.bl, va_recv hK.1 hP (ci := 5) (q0 := 0) rfl rfl, PM.pre hP hD hK⟩ rfl rfl hl.1 rfl (lv_room (Nat.le_of_ble_eq_true rfl)) d_Z_instruction_2 ⟨Nat.le_of_ble_eq_true rfl, Nat.le_of_ble_eq_true rfl⟩) hD hS hA (fun r_2 u H locs hw hP hD hS => ?_)
  obtain ⟨rfl, rfl⟩ := hw
  have hP : va_P D vwCl ((wZ cI cL z0 y1 y2 y3 y4 y5 y6 y7 y8 y9 y10 y11 y12 y13 y14 mn oo oa ob ss gg zz md sd da rg pp kp ot (if wiF k 0 (bl - 1) = 0 then 1 else 0) li bl nw wr ru al sp en ke kb at0) ++ fr) H := hP
  have hD : va_D A ((wZ cI cL z0 y1 y2 y3 y4 y5 y6 y7 y8 y9 y10 y11 y12 y13 y14 mn oo oa ob ss gg zz md sd da rg pp kp ot (if wiF k 0 (bl - 1) = 0 then 1 else 0) li bl nw wr ru al sp en ke kb at0) ++ fr) := hD
  refine lv_if_ne (tgt := 10) hx hb d_Z_instruction_5 (by decide) (fun c_5 => ?_) (fun c_5 => ?_)
  · refine lv_iload_n hx hb d_Z_instruction_10 rfl (lv_at hl 2 rfl) ?_
    refine lv_iload_n hx hb d_Z_instruction_11 rfl (lv_at hl 3 rfl) ?_
    refine lv_iload hx hb d_Z_instruction_12 (lv_at hl 4 rfl) ?_
    refine goRi (va_runS (As := [.int ox, .int x, .int y]) (rest := []) ⟨hx, hb, hml, hown, hts⟩ (c_Z_isInstruction l D cI cL cO ox x y) (cwS 3 hts (gBIG (m3 k_ml_Z_75 k_st_Z_isInstruction k_ini_Z) k_co_Z_isInstruction) rfl rfl rfl (by decide +kernel) ⟨Nat.le_of_ble_eq_true rfl, Nat.le_of_ble_eq_true rfl⟩) ⟨PR.bl, PR.pre P_nil hK⟩ rfl rfl hl.1 rfl (lv_room (Nat.le_of_ble_eq_true rfl)) d_Z_instruction_14 ⟨Nat.le_of_ble_eq_true rfl, Nat.le_of_ble_eq_true rfl⟩) ?_
    refine lv_if_ne (tgt := 26) hx hb d_Z_instruction_17 (by decide) (fun c_17 => ?_) (fun c_17 => ?_)
    · refine lv_aload_n hx hb d_Z_instruction_26 rfl (lv_at hl 0 rfl) ?_
      refine va_get (ci := 5) (v := .ref y1) (C := R_Z) (T := T_Z) (N := 26) hx hb ht in_Z hown hK.1 hP 0 rfl rfl 7 (by decide) (ht _ k_fl_Z_7) (fun _ h9 => h9) rfl d_Z_instruction_27 ?_
      refine lv_iload_n hx hb d_Z_instruction_30 rfl (lv_at hl 1 rfl) ?_
      refine va_iald hx hb hK.1 hP 1 0 rfl rfl (in_k (wi_k hbl c_5)) d_Z_instruction_31 ?_
      refine lv_bipush (v := 60) hx hb d_Z_instruction_32 (by decide) ?_
      refine lv_icmp_ne (tgt := 43) hx hb d_Z_instruction_34 (by decide) (fun c_34 => ?_) (fun c_34 => ?_)
      · refine lv_bipush (v := 60) hx hb d_Z_instruction_43 (by decide) ?_
        refine lv_iload_n hx hb d_Z_instruction_45 rfl (lv_at hl 1 rfl) ?_
        refine lv_imul hx hb d_Z_instruction_46 ?_
        refine lv_aload_n hx hb d_Z_instruction_47 rfl (lv_at hl 0 rfl) ?_
        refine va_get (ci := 5) (v := .ref y1) (C := R_Z) (T := T_Z) (N := 26) hx hb ht in_Z hown hK.1 hP 0 rfl rfl 7 (by decide) (ht _ k_fl_Z_7) (fun _ h9 => h9) rfl d_Z_instruction_48 ?_
        refine lv_iload_n hx hb d_Z_instruction_51 rfl (lv_at hl 1 rfl) ?_
        refine va_iald hx hb hK.1 hP 1 0 rfl rfl (in_k (wi_k hbl c_5)) d_Z_instruction_52 ?_
        refine lv_iadd hx hb d_Z_instruction_53 ?_
        refine lv_istore (lv' := [(5, .int ((60 * k) + (mn k.toNatClampNeg))), (0, .ref z0), (1, .int k), (2, .int ox), (3, .int x), (4, .int y)]) hx hb d_Z_instruction_54 hl (by decide) rfl (fun ls hl => ?_)
        refine lv_aload_n hx hb d_Z_instruction_56 rfl (lv_at hl 1 rfl) ?_
        refine va_get (ci := 5) (v := .ref y2) (C := R_Z) (T := T_Z) (N := 26) hx hb ht in_Z hown hK.1 hP 0 rfl rfl 8 (by decide) (ht _ k_fl_Z_13) (fun _ h9 => h9) rfl d_Z_instruction_57 ?_
        refine lv_iload hx hb d_Z_instruction_60 (lv_at hl 0 rfl) ?_
        refine lv_iload_n hx hb d_Z_instruction_62 rfl (lv_at hl 3 rfl) ?_
        refine va_iast hx hb hK.1 hP hD hS 2 0 rfl rfl (in60 (wi_k hbl c_5) (mn60 (hmn _ (kc (wi_k hbl c_5))) c_34)) d_Z_instruction_63 (fun H locs hP hD hS => ?_)
        have hP : va_P D vwCl ((wZ cI cL z0 y1 y2 y3 y4 y5 y6 y7 y8 y9 y10 y11 y12 y13 y14 mn (upd oo ((60 * k) + (mn k.toNatClampNeg)).toNatClampNeg ox) oa ob ss gg zz md sd da rg pp kp ot (if wiF k 0 (bl - 1) = 0 then 1 else 0) li bl nw wr ru al sp en ke kb at0) ++ fr) H := hP
        have hD : va_D A ((wZ cI cL z0 y1 y2 y3 y4 y5 y6 y7 y8 y9 y10 y11 y12 y13 y14 mn (upd oo ((60 * k) + (mn k.toNatClampNeg)).toNatClampNeg ox) oa ob ss gg zz md sd da rg pp kp ot (if wiF k 0 (bl - 1) = 0 then 1 else 0) li bl nw wr ru al sp en ke kb at0) ++ fr) := hD
        refine lv_aload_n hx hb d_Z_instruction_64 rfl (lv_at hl 1 rfl) ?_
        refine va_get (ci := 5) (v := .ref y3) (C := R_Z) (T := T_Z) (N := 26) hx hb ht in_Z hown hK.1 hP 0 rfl rfl 9 (by decide) (ht _ k_fl_Z_16) (fun _ h9 => h9) rfl d_Z_instruction_65 ?_
        refine lv_iload hx hb d_Z_instruction_68 (lv_at hl 0 rfl) ?_
        refine lv_iload_n hx hb d_Z_instruction_70 rfl (lv_at hl 4 rfl) ?_
        refine va_iast hx hb hK.1 hP hD hS 3 0 rfl rfl (in60 (wi_k hbl c_5) (mn60 (hmn _ (kc (wi_k hbl c_5))) c_34)) d_Z_instruction_71 (fun H locs hP hD hS => ?_)
        have hP : va_P D vwCl ((wZ cI cL z0 y1 y2 y3 y4 y5 y6 y7 y8 y9 y10 y11 y12 y13 y14 mn (upd oo ((60 * k) + (mn k.toNatClampNeg)).toNatClampNeg ox) (upd oa ((60 * k) + (mn k.toNatClampNeg)).toNatClampNeg x) ob ss gg zz md sd da rg pp kp ot (if wiF k 0 (bl - 1) = 0 then 1 else 0) li bl nw wr ru al sp en ke kb at0) ++ fr) H := hP
        have hD : va_D A ((wZ cI cL z0 y1 y2 y3 y4 y5 y6 y7 y8 y9 y10 y11 y12 y13 y14 mn (upd oo ((60 * k) + (mn k.toNatClampNeg)).toNatClampNeg ox) (upd oa ((60 * k) + (mn k.toNatClampNeg)).toNatClampNeg x) ob ss gg zz md sd da rg pp kp ot (if wiF k 0 (bl - 1) = 0 then 1 else 0) li bl nw wr ru al sp en ke kb at0) ++ fr) := hD
        refine lv_aload_n hx hb d_Z_instruction_72 rfl (lv_at hl 1 rfl) ?_
        refine va_get (ci := 5) (v := .ref y4) (C := R_Z) (T := T_Z) (N := 26) hx hb ht in_Z hown hK.1 hP 0 rfl rfl 10 (by decide) (ht _ k_fl_Z_19) (fun _ h9 => h9) rfl d_Z_instruction_73 ?_
        refine lv_iload hx hb d_Z_instruction_76 (lv_at hl 0 rfl) ?_
        refine lv_iload hx hb d_Z_instruction_78 (lv_at hl 5 rfl) ?_
        refine va_iast hx hb hK.1 hP hD hS 4 0 rfl rfl (in60 (wi_k hbl c_5) (mn60 (hmn _ (kc (wi_k hbl c_5))) c_34)) d_Z_instruction_80 (fun H locs hP hD hS => ?_)
        have hP : va_P D vwCl ((wZ cI cL z0 y1 y2 y3 y4 y5 y6 y7 y8 y9 y10 y11 y12 y13 y14 mn (upd oo ((60 * k) + (mn k.toNatClampNeg)).toNatClampNeg ox) (upd oa ((60 * k) + (mn k.toNatClampNeg)).toNatClampNeg x) (upd ob ((60 * k) + (mn k.toNatClampNeg)).toNatClampNeg y) ss gg zz md sd da rg pp kp ot (if wiF k 0 (bl - 1) = 0 then 1 else 0) li bl nw wr ru al sp en ke kb at0) ++ fr) H := hP
        have hD : va_D A ((wZ cI cL z0 y1 y2 y3 y4 y5 y6 y7 y8 y9 y10 y11 y12 y13 y14 mn (upd oo ((60 * k) + (mn k.toNatClampNeg)).toNatClampNeg ox) (upd oa ((60 * k) + (mn k.toNatClampNeg)).toNatClampNeg x) (upd ob ((60 * k) + (mn k.toNatClampNeg)).toNatClampNeg y) ss gg zz md sd da rg pp kp ot (if wiF k 0 (bl - 1) = 0 then 1 else 0) li bl nw wr ru al sp en ke kb at0) ++ fr) := hD
        refine lv_aload_n hx hb d_Z_instruction_81 rfl (lv_at hl 1 rfl) ?_
        refine va_get (ci := 5) (v := .ref y1) (C := R_Z) (T := T_Z) (N := 26) hx hb ht in_Z hown hK.1 hP 0 rfl rfl 7 (by decide) (ht _ k_fl_Z_7) (fun _ h9 => h9) rfl d_Z_instruction_82 ?_
        refine lv_iload_n hx hb d_Z_instruction_85 rfl (lv_at hl 2 rfl) ?_
        refine lv_dup2_11 hx hb d_Z_instruction_86 rfl rfl ?_
        refine va_iald hx hb hK.1 hP 1 0 rfl rfl (in_k (wi_k hbl c_5)) d_Z_instruction_87 ?_
        refine lv_iconst (v := 1) hx hb d_Z_instruction_88 (by decide) ?_
        refine lv_iadd hx hb d_Z_instruction_89 ?_
        refine va_iast hx hb hK.1 hP hD hS 1 0 rfl rfl (in_k (wi_k hbl c_5)) d_Z_instruction_90 (fun H locs hP hD hS => ?_)
        have hP : va_P D vwCl ((wZ cI cL z0 y1 y2 y3 y4 y5 y6 y7 y8 y9 y10 y11 y12 y13 y14 (upd mn k.toNatClampNeg ((mn k.toNatClampNeg) + 1)) (upd oo ((60 * k) + (mn k.toNatClampNeg)).toNatClampNeg ox) (upd oa ((60 * k) + (mn k.toNatClampNeg)).toNatClampNeg x) (upd ob ((60 * k) + (mn k.toNatClampNeg)).toNatClampNeg y) ss gg zz md sd da rg pp kp ot (if wiF k 0 (bl - 1) = 0 then 1 else 0) li bl nw wr ru al sp en ke kb at0) ++ fr) H := hP
        have hD : va_D A ((wZ cI cL z0 y1 y2 y3 y4 y5 y6 y7 y8 y9 y10 y11 y12 y13 y14 (upd mn k.toNatClampNeg ((mn k.toNatClampNeg) + 1)) (upd oo ((60 * k) + (mn k.toNatClampNeg)).toNatClampNeg ox) (upd oa ((60 * k) + (mn k.toNatClampNeg)).toNatClampNeg x) (upd ob ((60 * k) + (mn k.toNatClampNeg)).toNatClampNeg y) ss gg zz md sd da rg pp kp ot (if wiF k 0 (bl - 1) = 0 then 1 else 0) li bl nw wr ru al sp en ke kb at0) ++ fr) := hD
        refine lv_aload_n hx hb d_Z_instruction_91 rfl (lv_at hl 1 rfl) ?_
        refine va_get (ci := 5) (v := .ref y5) (C := R_Z) (T := T_Z) (N := 26) hx hb ht in_Z hown hK.1 hP 0 rfl rfl 11 (by decide) (ht _ k_fl_Z_22) (fun _ h9 => h9) rfl d_Z_instruction_92 ?_
        refine lv_iload_n hx hb d_Z_instruction_95 rfl (lv_at hl 2 rfl) ?_
        refine lv_iconst (v := 0) hx hb d_Z_instruction_96 (by decide) ?_
        refine va_iast hx hb hK.1 hP hD hS 5 0 rfl rfl (in_k (wi_k hbl c_5)) d_Z_instruction_97 (fun H locs hP hD hS => ?_)
        have hP : va_P D vwCl ((wZ cI cL z0 y1 y2 y3 y4 y5 y6 y7 y8 y9 y10 y11 y12 y13 y14 (upd mn k.toNatClampNeg ((mn k.toNatClampNeg) + 1)) (upd oo ((60 * k) + (mn k.toNatClampNeg)).toNatClampNeg ox) (upd oa ((60 * k) + (mn k.toNatClampNeg)).toNatClampNeg x) (upd ob ((60 * k) + (mn k.toNatClampNeg)).toNatClampNeg y) (upd ss k.toNatClampNeg 0) gg zz md sd da rg pp kp ot (if wiF k 0 (bl - 1) = 0 then 1 else 0) li bl nw wr ru al sp en ke kb at0) ++ fr) H := hP
        have hD : va_D A ((wZ cI cL z0 y1 y2 y3 y4 y5 y6 y7 y8 y9 y10 y11 y12 y13 y14 (upd mn k.toNatClampNeg ((mn k.toNatClampNeg) + 1)) (upd oo ((60 * k) + (mn k.toNatClampNeg)).toNatClampNeg ox) (upd oa ((60 * k) + (mn k.toNatClampNeg)).toNatClampNeg x) (upd ob ((60 * k) + (mn k.toNatClampNeg)).toNatClampNeg y) (upd ss k.toNatClampNeg 0) gg zz md sd da rg pp kp ot (if wiF k 0 (bl - 1) = 0 then 1 else 0) li bl nw wr ru al sp en ke kb at0) ++ fr) := hD
        refine lv_aload_n hx hb d_Z_instruction_98 rfl (lv_at hl 1 rfl) ?_
        refine va_get (ci := 5) (v := .ref y1) (C := R_Z) (T := T_Z) (N := 26) hx hb ht in_Z hown hK.1 hP 0 rfl rfl 7 (by decide) (ht _ k_fl_Z_7) (fun _ h9 => h9) rfl d_Z_instruction_99 ?_
        refine lv_iload_n hx hb d_Z_instruction_102 rfl (lv_at hl 2 rfl) ?_
        refine va_iald hx hb hK.1 hP 1 0 rfl rfl (in_k (wi_k hbl c_5)) d_Z_instruction_103 ?_
        rw [hQ]; exact retMi (w1 := fun u : Int32 × Fn × Fn × Fn × Fn × Fn => ((wZ cI cL z0 y1 y2 y3 y4 y5 y6 y7 y8 y9 y10 y11 y12 y13 y14 u.2.1 u.2.2.1 u.2.2.2.1 u.2.2.2.2.1 u.2.2.2.2.2 gg zz md sd da rg pp kp ot u.1 li bl nw wr ru al sp en ke kb at0) ++ fr)) (if wiF k 0 (bl - 1) = 0 then 1 else 0, upd mn k.toNatClampNeg ((mn k.toNatClampNeg) + 1), upd oo ((60 * k) + (mn k.toNatClampNeg)).toNatClampNeg ox, upd oa ((60 * k) + (mn k.toNatClampNeg)).toNatClampNeg x, upd ob ((60 * k) + (mn k.toNatClampNeg)).toNatClampNeg y, upd ss k.toNatClampNeg 0) hx hb hr hlocks hP hD hS (by first | (simp only [zinsF, pk_us, if_neg c_5, if_neg c_17, if_neg c_34]; done) | simp [zinsF, pk_us, c_5, c_17, c_34]) d_Z_instruction_104
      · refine lv_aload_n hx hb d_Z_instruction_37 rfl (lv_at hl 0 rfl) ?_
        refine lv_iconst (v := 3) hx hb d_Z_instruction_38 (by decide) ?_
        refine goMi (va_runV (As := [.int 3]) (rest := []) ⟨hx, hb, hml, hown, hts⟩ (c_Z_fail l D cI cL cO z0 y1 y2 y3 y4 y5 y6 y7 y8 y9 y10 y11 y12 y13 y14 mn oo oa ob ss gg zz md sd da rg pp kp ot (if wiF k 0 (bl - 1) = 0 then 1 else 0) li bl nw wr ru al sp en ke kb at0 fr 3 H.size) (cwV 1 hts (gBIG (m4 k_ml_Z_67 k_im_Z_fail k_sel_Z_fail k_ini_Z) k_co_Z_fail) rfl rfl rfl (by decide +kernel) ⟨Nat.le_of_ble_eq_true rfl, Nat.le_of_ble_eq_true rfl⟩) ⟨PM.bl, va_recv hK.1 hP (ci := 5) (q0 := 0) rfl rfl, PM.pre hP hD hK⟩ rfl rfl hl.1 rfl (lv_room (Nat.le_of_ble_eq_true rfl)) d_Z_instruction_39 ⟨Nat.le_of_ble_eq_true rfl, Nat.le_of_ble_eq_true rfl⟩) hD hS hA (fun r_39 u H locs hw hP hD hS => ?_)
        obtain ⟨rfl, rfl⟩ := hw
        have hP : va_P D vwCl ((wZ cI cL z0 y1 y2 y3 y4 y5 y6 y7 y8 y9 y10 y11 y12 y13 y14 mn oo oa ob ss gg zz md sd da rg pp kp ot 3 li bl nw wr ru al sp en ke kb at0) ++ fr) H := hP
        have hD : va_D A ((wZ cI cL z0 y1 y2 y3 y4 y5 y6 y7 y8 y9 y10 y11 y12 y13 y14 mn oo oa ob ss gg zz md sd da rg pp kp ot 3 li bl nw wr ru al sp en ke kb at0) ++ fr) := hD
        rw [hQ]; exact retMi (w1 := fun u : Int32 × Fn × Fn × Fn × Fn × Fn => ((wZ cI cL z0 y1 y2 y3 y4 y5 y6 y7 y8 y9 y10 y11 y12 y13 y14 u.2.1 u.2.2.1 u.2.2.2.1 u.2.2.2.2.1 u.2.2.2.2.2 gg zz md sd da rg pp kp ot u.1 li bl nw wr ru al sp en ke kb at0) ++ fr)) (3, mn, oo, oa, ob, ss) hx hb hr hlocks hP hD hS (by first | (simp only [zinsF, pk_us, if_neg c_5, if_neg c_17, if_pos c_34]; done) | simp [zinsF, pk_us, c_5, c_17, c_34]) d_Z_instruction_42
    · refine lv_aload_n hx hb d_Z_instruction_20 rfl (lv_at hl 0 rfl) ?_
      refine lv_iconst (v := 2) hx hb d_Z_instruction_21 (by decide) ?_
      refine goMi (va_runV (As := [.int 2]) (rest := []) ⟨hx, hb, hml, hown, hts⟩ (c_Z_fail l D cI cL cO z0 y1 y2 y3 y4 y5 y6 y7 y8 y9 y10 y11 y12 y13 y14 mn oo oa ob ss gg zz md sd da rg pp kp ot (if wiF k 0 (bl - 1) = 0 then 1 else 0) li bl nw wr ru al sp en ke kb at0 fr 2 H.size) (cwV 1 hts (gBIG (m4 k_ml_Z_67 k_im_Z_fail k_sel_Z_fail k_ini_Z) k_co_Z_fail) rfl rfl rfl (by decide +kernel) ⟨Nat.le_of_ble_eq_true rfl, Nat.le_of_ble_eq_true rfl⟩) ⟨PM.bl, va_recv hK.1 hP (ci := 5) (q0 := 0) rfl rfl, PM.pre hP hD hK⟩ rfl rfl hl.1 rfl (lv_room (Nat.le_of_ble_eq_true rfl)) d_Z_instruction_22 ⟨Nat.le_of_ble_eq_true rfl, Nat.le_of_ble_eq_true rfl⟩) hD hS hA (fun r_22 u H locs hw hP hD hS => ?_)
      obtain ⟨rfl, rfl⟩ := hw
      have hP : va_P D vwCl ((wZ cI cL z0 y1 y2 y3 y4 y5 y6 y7 y8 y9 y10 y11 y12 y13 y14 mn oo oa ob ss gg zz md sd da rg pp kp ot 2 li bl nw wr ru al sp en ke kb at0) ++ fr) H := hP
      have hD : va_D A ((wZ cI cL z0 y1 y2 y3 y4 y5 y6 y7 y8 y9 y10 y11 y12 y13 y14 mn oo oa ob ss gg zz md sd da rg pp kp ot 2 li bl nw wr ru al sp en ke kb at0) ++ fr) := hD
      rw [hQ]; exact retMi (w1 := fun u : Int32 × Fn × Fn × Fn × Fn × Fn => ((wZ cI cL z0 y1 y2 y3 y4 y5 y6 y7 y8 y9 y10 y11 y12 y13 y14 u.2.1 u.2.2.1 u.2.2.2.1 u.2.2.2.2.1 u.2.2.2.2.2 gg zz md sd da rg pp kp ot u.1 li bl nw wr ru al sp en ke kb at0) ++ fr)) (2, mn, oo, oa, ob, ss) hx hb hr hlocks hP hD hS (by first | (simp only [zinsF, pk_us, if_neg c_5, if_pos c_17]; done) | simp [zinsF, pk_us, c_5, c_17]) d_Z_instruction_25
  · refine lv_iconst (v := 0) hx hb d_Z_instruction_8 (by decide) ?_
    rw [hQ]; exact retMi (w1 := fun u : Int32 × Fn × Fn × Fn × Fn × Fn => ((wZ cI cL z0 y1 y2 y3 y4 y5 y6 y7 y8 y9 y10 y11 y12 y13 y14 u.2.1 u.2.2.1 u.2.2.2.1 u.2.2.2.2.1 u.2.2.2.2.2 gg zz md sd da rg pp kp ot u.1 li bl nw wr ru al sp en ke kb at0) ++ fr)) (if wiF k 0 (bl - 1) = 0 then 1 else 0, mn, oo, oa, ob, ss) hx hb hr hlocks hP hD hS (by first | (simp only [zinsF, pk_us, if_pos c_5]; done) | simp [zinsF, pk_us, c_5]) d_Z_instruction_9

abbrev w_Z_byteAt : List Cond := .code y_Z_byteAt b_Z_byteAt 3 (some .int) :: BIG
set_option maxHeartbeats 4000000 in
set_option maxRecDepth 100000 in
theorem c_Z_byteAt (l : Launch) (D : va_G) (cI cL cO : ClassId) (z0 : Nat) (y1 : Nat) (y2 : Nat) (y3 : Nat) (y4 : Nat) (y5 : Nat) (y6 : Nat) (y7 : Nat) (y8 : Nat) (y9 : Nat) (y10 : Nat) (y11 : Nat) (y12 : Nat) (y13 : Nat) (y14 : Nat) (mn : Fn) (oo : Fn) (oa : Fn) (ob : Fn) (ss : Fn) (gg : Fn) (zz : Fn) (md : Fn) (sd : Fn) (da : Fn) (rg : FL) (pp : FL) (kp : FL) (ot : FL) (th : Int32) (li : Int32) (bl : Int32) (nw : Int32) (wr : Int32) (ru : Int32) (al : Int32) (sp : Int32) (en : Int32) (ke : Int32) (kb : Int32) (at0 : Int32) (fr : va_W) (k : Int32) (i : Int32) (hbl : 0 ≤ bl.toInt ∧ bl.toInt ≤ 24) (hzz : ∀ j, j < 24 → 0 ≤ (zz j).toInt ∧ (zz j).toInt ≤ 300) : CMi l y_Z_byteAt w_Z_byteAt ({ frames := 2, cells := 0, slots := 0, locals := 43 }) D cI cL cO [.ref z0, .int k, .int i] ((wZ cI cL z0 y1 y2 y3 y4 y5 y6 y7 y8 y9 y10 y11 y12 y13 y14 mn oo oa ob ss gg zz md sd da rg pp kp ot th li bl nw wr ru al sp en ke kb at0) ++ fr) (fun (r : Int32) (u : Int32) => (r, u) = zbatF k i bl ss zz md) (fun u : Int32 => ((wZ cI cL z0 y1 y2 y3 y4 y5 y6 y7 y8 y9 y10 y11 y12 y13 y14 mn oo oa ob ss gg zz md sd da rg pp kp ot u li bl nw wr ru al sp en ke kb at0) ++ fr)) 0 0 := by
  refine ofMi (cc := b_Z_byteAt) (maxL := 3) (ret := (some .int)) (by decide) rfl (Nat.le_of_ble_eq_true rfl) ?_
  intro p e s m below meth c A ls H Q hQ hx hb hr hlocks hin hts hown hml hP hK hD hS hA hl
  have hl : lv_has ls 3 [(0, .ref z0), (1, .int k), (2, .int i)] := hl
  have hown : s.vm.findClass R_Z = some m.cls := hown
  have ht : ∀ w ∈ BIG, w.before _ s = true := fun w h => hts w (List.mem_cons_of_mem _ h)
  refine lv_aload_n hx hb d_Z_byteAt_0 rfl (lv_at hl 0 rfl) ?_
  refine lv_iload_n hx hb d_Z_byteAt_1 rfl (lv_at hl 1 rfl) ?_
  refine goMi (va_runV (As := [.int k]) (rest := []) ⟨hx, hb, hml, hown, hts⟩ (c_Z_isBlock l D cI cL cO z0 y1 y2 y3 y4 y5 y6 y7 y8 y9 y10 y11 y12 y13 y14 mn oo oa ob ss gg zz md sd da rg pp kp ot th li bl nw wr ru al sp en ke kb at0 fr k H.size) (cwV 1 hts (gBIG (m4 k_ml_Z_71 k_im_Z_isBlock k_sel_Z_isBlock k_ini_Z) k_co_Z_isBlock) rfl rfl rfl (by decide +kernel) ⟨Nat.le_of_ble_eq_true rfl, Nat.le_of_ble_eq_true rfl⟩) ⟨PM.bl, va_recv hK.1 hP (ci := 5) (q0 := 0) rfl rfl, PM.pre hP hD hK⟩ rfl rfl hl.1 rfl (lv_room (Nat.le_of_ble_eq_true rfl)) d_Z_byteAt_2 ⟨Nat.le_of_ble_eq_true rfl, Nat.le_of_ble_eq_true rfl⟩) hD hS hA (fun r_2 u H locs hw hP hD hS => ?_)
  obtain ⟨rfl, rfl⟩ := hw
  have hP : va_P D vwCl ((wZ cI cL z0 y1 y2 y3 y4 y5 y6 y7 y8 y9 y10 y11 y12 y13 y14 mn oo oa ob ss gg zz md sd da rg pp kp ot (if wiF k 0 (bl - 1) = 0 then 1 else 0) li bl nw wr ru al sp en ke kb at0) ++ fr) H := hP
  have hD : va_D A ((wZ cI cL z0 y1 y2 y3 y4 y5 y6 y7 y8 y9 y10 y11 y12 y13 y14 mn oo oa ob ss gg zz md sd da rg pp kp ot (if wiF k 0 (bl - 1) = 0 then 1 else 0) li bl nw wr ru al sp en ke kb at0) ++ fr) := hD
  refine lv_if_ne (tgt := 10) hx hb d_Z_byteAt_5 (by decide) (fun c_5 => ?_) (fun c_5 => ?_)
  · refine lv_aload_n hx hb d_Z_byteAt_10 rfl (lv_at hl 0 rfl) ?_
    refine va_get (ci := 5) (v := .ref y5) (C := R_Z) (T := T_Z) (N := 26) hx hb ht in_Z hown hK.1 hP 0 rfl rfl 11 (by decide) (ht _ k_fl_Z_22) (fun _ h9 => h9) rfl d_Z_byteAt_11 ?_
    refine lv_iload_n hx hb d_Z_byteAt_14 rfl (lv_at hl 1 rfl) ?_
    refine va_iald hx hb hK.1 hP 5 0 rfl rfl (in_k (wi_k hbl c_5)) d_Z_byteAt_15 ?_
    refine lv_if_ne (tgt := 25) hx hb d_Z_byteAt_16 (by decide) (fun c_16 => ?_) (fun c_16 => ?_)
    · refine lv_iload_n hx hb d_Z_byteAt_25 rfl (lv_at hl 2 rfl) ?_
      refine lv_iconst (v := 0) hx hb d_Z_byteAt_26 (by decide) ?_
      refine lv_aload_n hx hb d_Z_byteAt_27 rfl (lv_at hl 0 rfl) ?_
      refine va_get (ci := 5) (v := .ref y7) (C := R_Z) (T := T_Z) (N := 26) hx hb ht in_Z hown hK.1 hP 0 rfl rfl 13 (by decide) (ht _ k_fl_Z_28) (fun _ h9 => h9) rfl d_Z_byteAt_28 ?_
      refine lv_iload_n hx hb d_Z_byteAt_31 rfl (lv_at hl 1 rfl) ?_
      refine va_iald hx hb hK.1 hP 7 0 rfl rfl (in_k (wi_k hbl c_5)) d_Z_byteAt_32 ?_
      refine lv_iconst (v := 1) hx hb d_Z_byteAt_33 (by decide) ?_
      refine lv_isub hx hb d_Z_byteAt_34 ?_
      refine goRi (va_runS (As := [.int i, .int 0, .int ((zz k.toNatClampNeg) - 1)]) (rest := []) ⟨hx, hb, hml, hown, hts⟩ (c_Z_within l D cI cL cO i 0 ((zz k.toNatClampNeg) - 1)) (cwS 3 hts (gBIG (m3 k_ml_Z_63 k_st_Z_within k_ini_Z) k_co_Z_within) rfl rfl rfl (by decide +kernel) ⟨Nat.le_of_ble_eq_true rfl, Nat.le_of_ble_eq_true rfl⟩) ⟨PR.bl, PR.pre P_nil hK⟩ rfl rfl hl.1 rfl (lv_room (Nat.le_of_ble_eq_true rfl)) d_Z_byteAt_35 ⟨Nat.le_of_ble_eq_true rfl, Nat.le_of_ble_eq_true rfl⟩) ?_
      refine lv_if_eq (tgt := 56) hx hb d_Z_byteAt_38 (by decide) (fun c_38 => ?_) (fun c_38 => ?_)
      · refine lv_aload_n hx hb d_Z_byteAt_56 rfl (lv_at hl 0 rfl) ?_
        refine lv_iconst (v := 3) hx hb d_Z_byteAt_57 (by decide) ?_
        refine goMi (va_runV (As := [.int 3]) (rest := []) ⟨hx, hb, hml, hown, hts⟩ (c_Z_fail l D cI cL cO z0 y1 y2 y3 y4 y5 y6 y7 y8 y9 y10 y11 y12 y13 y14 mn oo oa ob ss gg zz md sd da rg pp kp ot (if wiF k 0 (bl - 1) = 0 then 1 else 0) li bl nw wr ru al sp en ke kb at0 fr 3 H.size) (cwV 1 hts (gBIG (m4 k_ml_Z_67 k_im_Z_fail k_sel_Z_fail k_ini_Z) k_co_Z_fail) rfl rfl rfl (by decide +kernel) ⟨Nat.le_of_ble_eq_true rfl, Nat.le_of_ble_eq_true rfl⟩) ⟨PM.bl, va_recv hK.1 hP (ci := 5) (q0 := 0) rfl rfl, PM.pre hP hD hK⟩ rfl rfl hl.1 rfl (lv_room (Nat.le_of_ble_eq_true rfl)) d_Z_byteAt_58 ⟨Nat.le_of_ble_eq_true rfl, Nat.le_of_ble_eq_true rfl⟩) hD hS hA (fun r_58 u H locs hw hP hD hS => ?_)
        obtain ⟨rfl, rfl⟩ := hw
        have hP : va_P D vwCl ((wZ cI cL z0 y1 y2 y3 y4 y5 y6 y7 y8 y9 y10 y11 y12 y13 y14 mn oo oa ob ss gg zz md sd da rg pp kp ot 3 li bl nw wr ru al sp en ke kb at0) ++ fr) H := hP
        have hD : va_D A ((wZ cI cL z0 y1 y2 y3 y4 y5 y6 y7 y8 y9 y10 y11 y12 y13 y14 mn oo oa ob ss gg zz md sd da rg pp kp ot 3 li bl nw wr ru al sp en ke kb at0) ++ fr) := hD
        rw [hQ]; exact retMi (w1 := fun u : Int32 => ((wZ cI cL z0 y1 y2 y3 y4 y5 y6 y7 y8 y9 y10 y11 y12 y13 y14 mn oo oa ob ss gg zz md sd da rg pp kp ot u li bl nw wr ru al sp en ke kb at0) ++ fr)) 3 hx hb hr hlocks hP hD hS (by first | (simp only [zbatF, if_neg c_5, if_neg c_16, if_pos c_38]; done) | simp [zbatF, c_5, c_16, c_38]) d_Z_byteAt_61
      · refine lv_aload_n hx hb d_Z_byteAt_41 rfl (lv_at hl 0 rfl) ?_
        refine va_get (ci := 5) (v := .ref y8) (C := R_Z) (T := T_Z) (N := 26) hx hb ht in_Z hown hK.1 hP 0 rfl rfl 14 (by decide) (ht _ k_fl_Z_31) (fun _ h9 => h9) rfl d_Z_byteAt_42 ?_
        refine lv_sipush (v := 300) hx hb d_Z_byteAt_45 (by decide) ?_
        refine lv_iload_n hx hb d_Z_byteAt_48 rfl (lv_at hl 1 rfl) ?_
        refine lv_imul hx hb d_Z_byteAt_49 ?_
        refine lv_iload_n hx hb d_Z_byteAt_50 rfl (lv_at hl 2 rfl) ?_
        refine lv_iadd hx hb d_Z_byteAt_51 ?_
        refine va_iald hx hb hK.1 hP 8 0 rfl rfl (in300 (wi_k hbl c_5) (zz_i (hzz _ (kc (wi_k hbl c_5))) c_38)) d_Z_byteAt_52 ?_
        refine lv_goto (tgt := 61) hx hb d_Z_byteAt_53 (by decide) ?_
        rw [hQ]; exact retMi (w1 := fun u : Int32 => ((wZ cI cL z0 y1 y2 y3 y4 y5 y6 y7 y8 y9 y10 y11 y12 y13 y14 mn oo oa ob ss gg zz md sd da rg pp kp ot u li bl nw wr ru al sp en ke kb at0) ++ fr)) (if wiF k 0 (bl - 1) = 0 then 1 else 0) hx hb hr hlocks hP hD hS (by first | (simp only [zbatF, if_neg c_5, if_neg c_16, if_neg c_38]; done) | simp [zbatF, c_5, c_16, c_38]) d_Z_byteAt_61
    · refine lv_aload_n hx hb d_Z_byteAt_19 rfl (lv_at hl 0 rfl) ?_
      refine lv_iconst (v := 2) hx hb d_Z_byteAt_20 (by decide) ?_
      refine goMi (va_runV (As := [.int 2]) (rest := []) ⟨hx, hb, hml, hown, hts⟩ (c_Z_fail l D cI cL cO z0 y1 y2 y3 y4 y5 y6 y7 y8 y9 y10 y11 y12 y13 y14 mn oo oa ob ss gg zz md sd da rg pp kp ot (if wiF k 0 (bl - 1) = 0 then 1 else 0) li bl nw wr ru al sp en ke kb at0 fr 2 H.size) (cwV 1 hts (gBIG (m4 k_ml_Z_67 k_im_Z_fail k_sel_Z_fail k_ini_Z) k_co_Z_fail) rfl rfl rfl (by decide +kernel) ⟨Nat.le_of_ble_eq_true rfl, Nat.le_of_ble_eq_true rfl⟩) ⟨PM.bl, va_recv hK.1 hP (ci := 5) (q0 := 0) rfl rfl, PM.pre hP hD hK⟩ rfl rfl hl.1 rfl (lv_room (Nat.le_of_ble_eq_true rfl)) d_Z_byteAt_21 ⟨Nat.le_of_ble_eq_true rfl, Nat.le_of_ble_eq_true rfl⟩) hD hS hA (fun r_21 u H locs hw hP hD hS => ?_)
      obtain ⟨rfl, rfl⟩ := hw
      have hP : va_P D vwCl ((wZ cI cL z0 y1 y2 y3 y4 y5 y6 y7 y8 y9 y10 y11 y12 y13 y14 mn oo oa ob ss gg zz md sd da rg pp kp ot 2 li bl nw wr ru al sp en ke kb at0) ++ fr) H := hP
      have hD : va_D A ((wZ cI cL z0 y1 y2 y3 y4 y5 y6 y7 y8 y9 y10 y11 y12 y13 y14 mn oo oa ob ss gg zz md sd da rg pp kp ot 2 li bl nw wr ru al sp en ke kb at0) ++ fr) := hD
      rw [hQ]; exact retMi (w1 := fun u : Int32 => ((wZ cI cL z0 y1 y2 y3 y4 y5 y6 y7 y8 y9 y10 y11 y12 y13 y14 mn oo oa ob ss gg zz md sd da rg pp kp ot u li bl nw wr ru al sp en ke kb at0) ++ fr)) 2 hx hb hr hlocks hP hD hS (by first | (simp only [zbatF, if_neg c_5, if_pos c_16]; done) | simp [zbatF, c_5, c_16]) d_Z_byteAt_24
  · refine lv_iconst (v := 0) hx hb d_Z_byteAt_8 (by decide) ?_
    rw [hQ]; exact retMi (w1 := fun u : Int32 => ((wZ cI cL z0 y1 y2 y3 y4 y5 y6 y7 y8 y9 y10 y11 y12 y13 y14 mn oo oa ob ss gg zz md sd da rg pp kp ot u li bl nw wr ru al sp en ke kb at0) ++ fr)) (if wiF k 0 (bl - 1) = 0 then 1 else 0) hx hb hr hlocks hP hD hS (by first | (simp only [zbatF, if_pos c_5]; done) | simp [zbatF, c_5]) d_Z_byteAt_9

abbrev w_Z_alter : List Cond := .code y_Z_alter b_Z_alter 5 (some .int) :: BIG
set_option maxHeartbeats 4000000 in
set_option maxRecDepth 100000 in
theorem c_Z_alter (l : Launch) (D : va_G) (cI cL cO : ClassId) (z0 : Nat) (y1 : Nat) (y2 : Nat) (y3 : Nat) (y4 : Nat) (y5 : Nat) (y6 : Nat) (y7 : Nat) (y8 : Nat) (y9 : Nat) (y10 : Nat) (y11 : Nat) (y12 : Nat) (y13 : Nat) (y14 : Nat) (mn : Fn) (oo : Fn) (oa : Fn) (ob : Fn) (ss : Fn) (gg : Fn) (zz : Fn) (md : Fn) (sd : Fn) (da : Fn) (rg : FL) (pp : FL) (kp : FL) (ot : FL) (th : Int32) (li : Int32) (bl : Int32) (nw : Int32) (wr : Int32) (ru : Int32) (al : Int32) (sp : Int32) (en : Int32) (ke : Int32) (kb : Int32) (at0 : Int32) (fr : va_W) (k : Int32) (i : Int32) (v : Int32) (hbl : 0 ≤ bl.toInt ∧ bl.toInt ≤ 24) (hzz : ∀ j, j < 24 → 0 ≤ (zz j).toInt ∧ (zz j).toInt ≤ 300) : CMi l y_Z_alter w_Z_alter ({ frames := 2, cells := 0, slots := 0, locals := 43 }) D cI cL cO [.ref z0, .int k, .int i, .int v] ((wZ cI cL z0 y1 y2 y3 y4 y5 y6 y7 y8 y9 y10 y11 y12 y13 y14 mn oo oa ob ss gg zz md sd da rg pp kp ot th li bl nw wr ru al sp en ke kb at0) ++ fr) (fun (r : Int32) (u : Int32 × Fn) => (r, u.1, u.2) = zaltF k i v bl ss zz md) (fun u : Int32 × Fn => ((wZ cI cL z0 y1 y2 y3 y4 y5 y6 y7 y8 y9 y10 y11 y12 y13 y14 mn oo oa ob ss gg zz u.2 sd da rg pp kp ot u.1 li bl nw wr ru al sp en ke kb at0) ++ fr)) 0 0 := by
  refine ofMi (cc := b_Z_alter) (maxL := 5) (ret := (some .int)) (by decide) rfl (Nat.le_of_ble_eq_true rfl) ?_
  intro p e s m below meth c A ls H Q hQ hx hb hr hlocks hin hts hown hml hP hK hD hS hA hl
  have hl : lv_has ls 5 [(0, .ref z0), (1, .int k), (2, .int i), (3, .int v)] := hl
  have hown : s.vm.findClass R_Z = some m.cls := hown
  have ht : ∀ w ∈ BIG, w.before _ s = true := fun w h => hts w (List.mem_cons_of_mem _ h)
  refine lv_aload_n hx hb d_Z_alter_0 rfl (lv_at hl 0 rfl) ?_
  refine lv_iload_n hx hb d_Z_alter_1 rfl (lv_at hl 1 rfl) ?_
  refine goMi (va_runV (As := [.int k]) (rest := []) ⟨hx, hb, hml, hown, hts⟩ (c_Z_isBlock l D cI cL cO z0 y1 y2 y3 y4 y5 y6 y7 y8 y9 y10 y11 y12 y13 y14 mn oo oa ob ss gg zz md sd da rg pp kp ot th li bl nw wr ru al sp en ke kb at0 fr k H.size) (cwV 1 hts (gBIG (m4 k_ml_Z_71 k_im_Z_isBlock k_sel_Z_isBlock k_ini_Z) k_co_Z_isBlock) rfl rfl rfl (by decide +kernel) ⟨Nat.le_of_ble_eq_true rfl, Nat.le_of_ble_eq_true rfl⟩) ⟨PM.bl, va_recv hK.1 hP (ci := 5) (q0 := 0) rfl rfl, PM.pre hP hD hK⟩ rfl rfl hl.1 rfl (lv_room (Nat.le_of_ble_eq_true rfl)) d_Z_alter_2 ⟨Nat.le_of_ble_eq_true rfl, Nat.le_of_ble_eq_true rfl⟩) hD hS hA (fun r_2 u H locs hw hP hD hS => ?_)
  obtain ⟨rfl, rfl⟩ := hw
  have hP : va_P D vwCl ((wZ cI cL z0 y1 y2 y3 y4 y5 y6 y7 y8 y9 y10 y11 y12 y13 y14 mn oo oa ob ss gg zz md sd da rg pp kp ot (if wiF k 0 (bl - 1) = 0 then 1 else 0) li bl nw wr ru al sp en ke kb at0) ++ fr) H := hP
  have hD : va_D A ((wZ cI cL z0 y1 y2 y3 y4 y5 y6 y7 y8 y9 y10 y11 y12 y13 y14 mn oo oa ob ss gg zz md sd da rg pp kp ot (if wiF k 0 (bl - 1) = 0 then 1 else 0) li bl nw wr ru al sp en ke kb at0) ++ fr) := hD
  refine lv_if_ne (tgt := 10) hx hb d_Z_alter_5 (by decide) (fun c_5 => ?_) (fun c_5 => ?_)
  · refine lv_aload_n hx hb d_Z_alter_10 rfl (lv_at hl 0 rfl) ?_
    refine va_get (ci := 5) (v := .ref y5) (C := R_Z) (T := T_Z) (N := 26) hx hb ht in_Z hown hK.1 hP 0 rfl rfl 11 (by decide) (ht _ k_fl_Z_22) (fun _ h9 => h9) rfl d_Z_alter_11 ?_
    refine lv_iload_n hx hb d_Z_alter_14 rfl (lv_at hl 1 rfl) ?_
    refine va_iald hx hb hK.1 hP 5 0 rfl rfl (in_k (wi_k hbl c_5)) d_Z_alter_15 ?_
    refine lv_iconst (v := 1) hx hb d_Z_alter_16 (by decide) ?_
    refine lv_icmp_eq (tgt := 26) hx hb d_Z_alter_17 (by decide) (fun c_17 => ?_) (fun c_17 => ?_)
    · refine lv_iload_n hx hb d_Z_alter_26 rfl (lv_at hl 2 rfl) ?_
      refine lv_iconst (v := 0) hx hb d_Z_alter_27 (by decide) ?_
      refine lv_aload_n hx hb d_Z_alter_28 rfl (lv_at hl 0 rfl) ?_
      refine va_get (ci := 5) (v := .ref y7) (C := R_Z) (T := T_Z) (N := 26) hx hb ht in_Z hown hK.1 hP 0 rfl rfl 13 (by decide) (ht _ k_fl_Z_28) (fun _ h9 => h9) rfl d_Z_alter_29 ?_
      refine lv_iload_n hx hb d_Z_alter_32 rfl (lv_at hl 1 rfl) ?_
      refine va_iald hx hb hK.1 hP 7 0 rfl rfl (in_k (wi_k hbl c_5)) d_Z_alter_33 ?_
      refine lv_iconst (v := 1) hx hb d_Z_alter_34 (by decide) ?_
      refine lv_isub hx hb d_Z_alter_35 ?_
      refine goRi (va_runS (As := [.int i, .int 0, .int ((zz k.toNatClampNeg) - 1)]) (rest := []) ⟨hx, hb, hml, hown, hts⟩ (c_Z_within l D cI cL cO i 0 ((zz k.toNatClampNeg) - 1)) (cwS 3 hts (gBIG (m3 k_ml_Z_63 k_st_Z_within k_ini_Z) k_co_Z_within) rfl rfl rfl (by decide +kernel) ⟨Nat.le_of_ble_eq_true rfl, Nat.le_of_ble_eq_true rfl⟩) ⟨PR.bl, PR.pre P_nil hK⟩ rfl rfl hl.1 rfl (lv_room (Nat.le_of_ble_eq_true rfl)) d_Z_alter_36 ⟨Nat.le_of_ble_eq_true rfl, Nat.le_of_ble_eq_true rfl⟩) ?_
      refine lv_if_eq (tgt := 53) hx hb d_Z_alter_39 (by decide) (fun c_39 => ?_) (fun c_39 => ?_)
      · refine lv_aload_n hx hb d_Z_alter_53 rfl (lv_at hl 0 rfl) ?_
        refine lv_iconst (v := 3) hx hb d_Z_alter_54 (by decide) ?_
        refine goMi (va_runV (As := [.int 3]) (rest := []) ⟨hx, hb, hml, hown, hts⟩ (c_Z_fail l D cI cL cO z0 y1 y2 y3 y4 y5 y6 y7 y8 y9 y10 y11 y12 y13 y14 mn oo oa ob ss gg zz md sd da rg pp kp ot (if wiF k 0 (bl - 1) = 0 then 1 else 0) li bl nw wr ru al sp en ke kb at0 fr 3 H.size) (cwV 1 hts (gBIG (m4 k_ml_Z_67 k_im_Z_fail k_sel_Z_fail k_ini_Z) k_co_Z_fail) rfl rfl rfl (by decide +kernel) ⟨Nat.le_of_ble_eq_true rfl, Nat.le_of_ble_eq_true rfl⟩) ⟨PM.bl, va_recv hK.1 hP (ci := 5) (q0 := 0) rfl rfl, PM.pre hP hD hK⟩ rfl rfl hl.1 rfl (lv_room (Nat.le_of_ble_eq_true rfl)) d_Z_alter_55 ⟨Nat.le_of_ble_eq_true rfl, Nat.le_of_ble_eq_true rfl⟩) hD hS hA (fun r_55 u H locs hw hP hD hS => ?_)
        obtain ⟨rfl, rfl⟩ := hw
        have hP : va_P D vwCl ((wZ cI cL z0 y1 y2 y3 y4 y5 y6 y7 y8 y9 y10 y11 y12 y13 y14 mn oo oa ob ss gg zz md sd da rg pp kp ot 3 li bl nw wr ru al sp en ke kb at0) ++ fr) H := hP
        have hD : va_D A ((wZ cI cL z0 y1 y2 y3 y4 y5 y6 y7 y8 y9 y10 y11 y12 y13 y14 mn oo oa ob ss gg zz md sd da rg pp kp ot 3 li bl nw wr ru al sp en ke kb at0) ++ fr) := hD
        rw [hQ]; exact retMi (w1 := fun u : Int32 × Fn => ((wZ cI cL z0 y1 y2 y3 y4 y5 y6 y7 y8 y9 y10 y11 y12 y13 y14 mn oo oa ob ss gg zz u.2 sd da rg pp kp ot u.1 li bl nw wr ru al sp en ke kb at0) ++ fr)) (3, md) hx hb hr hlocks hP hD hS (by first | (simp only [zaltF, if_neg c_5, if_pos c_17, if_pos c_39]; done) | simp [zaltF, c_5, c_17, c_39]) d_Z_alter_58
      · refine lv_iload_n hx hb d_Z_alter_42 rfl (lv_at hl 3 rfl) ?_
        refine lv_iconst (v := 0) hx hb d_Z_alter_43 (by decide) ?_
        refine lv_sipush (v := 255) hx hb d_Z_alter_44 (by decide) ?_
        refine goRi (va_runS (As := [.int v, .int 0, .int 255]) (rest := []) ⟨hx, hb, hml, hown, hts⟩ (c_Z_within l D cI cL cO v 0 255) (cwS 3 hts (gBIG (m3 k_ml_Z_63 k_st_Z_within k_ini_Z) k_co_Z_within) rfl rfl rfl (by decide +kernel) ⟨Nat.le_of_ble_eq_true rfl, Nat.le_of_ble_eq_true rfl⟩) ⟨PR.bl, PR.pre P_nil hK⟩ rfl rfl hl.1 rfl (lv_room (Nat.le_of_ble_eq_true rfl)) d_Z_alter_47 ⟨Nat.le_of_ble_eq_true rfl, Nat.le_of_ble_eq_true rfl⟩) ?_
        refine lv_if_ne (tgt := 59) hx hb d_Z_alter_50 (by decide) (fun c_50 => ?_) (fun c_50 => ?_)
        · refine lv_aload_n hx hb d_Z_alter_59 rfl (lv_at hl 0 rfl) ?_
          refine va_get (ci := 5) (v := .ref y8) (C := R_Z) (T := T_Z) (N := 26) hx hb ht in_Z hown hK.1 hP 0 rfl rfl 14 (by decide) (ht _ k_fl_Z_31) (fun _ h9 => h9) rfl d_Z_alter_60 ?_
          refine lv_sipush (v := 300) hx hb d_Z_alter_63 (by decide) ?_
          refine lv_iload_n hx hb d_Z_alter_66 rfl (lv_at hl 1 rfl) ?_
          refine lv_imul hx hb d_Z_alter_67 ?_
          refine lv_iload_n hx hb d_Z_alter_68 rfl (lv_at hl 2 rfl) ?_
          refine lv_iadd hx hb d_Z_alter_69 ?_
          refine va_iald hx hb hK.1 hP 8 0 rfl rfl (in300 (wi_k hbl c_5) (zz_i (hzz _ (kc (wi_k hbl c_5))) c_39)) d_Z_alter_70 ?_
          refine lv_istore (lv' := [(4, .int (md ((300 * k) + i).toNatClampNeg)), (0, .ref z0), (1, .int k), (2, .int i), (3, .int v)]) hx hb d_Z_alter_71 hl (by decide) rfl (fun ls hl => ?_)
          refine lv_aload_n hx hb d_Z_alter_73 rfl (lv_at hl 1 rfl) ?_
          refine va_get (ci := 5) (v := .ref y8) (C := R_Z) (T := T_Z) (N := 26) hx hb ht in_Z hown hK.1 hP 0 rfl rfl 14 (by decide) (ht _ k_fl_Z_31) (fun _ h9 => h9) rfl d_Z_alter_74 ?_
          refine lv_sipush (v := 300) hx hb d_Z_alter_77 (by decide) ?_
          refine lv_iload_n hx hb d_Z_alter_80 rfl (lv_at hl 2 rfl) ?_
          refine lv_imul hx hb d_Z_alter_81 ?_
          refine lv_iload_n hx hb d_Z_alter_82 rfl (lv_at hl 3 rfl) ?_
          refine lv_iadd hx hb d_Z_alter_83 ?_
          refine lv_iload_n hx hb d_Z_alter_84 rfl (lv_at hl 4 rfl) ?_
          refine va_iast hx hb hK.1 hP hD hS 8 0 rfl rfl (in300 (wi_k hbl c_5) (zz_i (hzz _ (kc (wi_k hbl c_5))) c_39)) d_Z_alter_85 (fun H locs hP hD hS => ?_)
          have hP : va_P D vwCl ((wZ cI cL z0 y1 y2 y3 y4 y5 y6 y7 y8 y9 y10 y11 y12 y13 y14 mn oo oa ob ss gg zz (upd md ((300 * k) + i).toNatClampNeg v) sd da rg pp kp ot (if wiF k 0 (bl - 1) = 0 then 1 else 0) li bl nw wr ru al sp en ke kb at0) ++ fr) H := hP
          have hD : va_D A ((wZ cI cL z0 y1 y2 y3 y4 y5 y6 y7 y8 y9 y10 y11 y12 y13 y14 mn oo oa ob ss gg zz (upd md ((300 * k) + i).toNatClampNeg v) sd da rg pp kp ot (if wiF k 0 (bl - 1) = 0 then 1 else 0) li bl nw wr ru al sp en ke kb at0) ++ fr) := hD
          refine lv_iload hx hb d_Z_alter_86 (lv_at hl 0 rfl) ?_
          rw [hQ]; exact retMi (w1 := fun u : Int32 × Fn => ((wZ cI cL z0 y1 y2 y3 y4 y5 y6 y7 y8 y9 y10 y11 y12 y13 y14 mn oo oa ob ss gg zz u.2 sd da rg pp kp ot u.1 li bl nw wr ru al sp en ke kb at0) ++ fr)) (if wiF k 0 (bl - 1) = 0 then 1 else 0, upd md ((300 * k) + i).toNatClampNeg v) hx hb hr hlocks hP hD hS (by first | (simp only [zaltF, if_neg c_5, if_pos c_17, if_neg c_39, if_neg c_50]; done) | simp [zaltF, c_5, c_17, c_39, c_50]) d_Z_alter_88
        · refine lv_aload_n hx hb d_Z_alter_53 rfl (lv_at hl 0 rfl) ?_
          refine lv_iconst (v := 3) hx hb d_Z_alter_54 (by decide) ?_
          refine goMi (va_runV (As := [.int 3]) (rest := []) ⟨hx, hb, hml, hown, hts⟩ (c_Z_fail l D cI cL cO z0 y1 y2 y3 y4 y5 y6 y7 y8 y9 y10 y11 y12 y13 y14 mn oo oa ob ss gg zz md sd da rg pp kp ot (if wiF k 0 (bl - 1) = 0 then 1 else 0) li bl nw wr ru al sp en ke kb at0 fr 3 H.size) (cwV 1 hts (gBIG (m4 k_ml_Z_67 k_im_Z_fail k_sel_Z_fail k_ini_Z) k_co_Z_fail) rfl rfl rfl (by decide +kernel) ⟨Nat.le_of_ble_eq_true rfl, Nat.le_of_ble_eq_true rfl⟩) ⟨PM.bl, va_recv hK.1 hP (ci := 5) (q0 := 0) rfl rfl, PM.pre hP hD hK⟩ rfl rfl hl.1 rfl (lv_room (Nat.le_of_ble_eq_true rfl)) d_Z_alter_55 ⟨Nat.le_of_ble_eq_true rfl, Nat.le_of_ble_eq_true rfl⟩) hD hS hA (fun r_55 u H locs hw hP hD hS => ?_)
          obtain ⟨rfl, rfl⟩ := hw
          have hP : va_P D vwCl ((wZ cI cL z0 y1 y2 y3 y4 y5 y6 y7 y8 y9 y10 y11 y12 y13 y14 mn oo oa ob ss gg zz md sd da rg pp kp ot 3 li bl nw wr ru al sp en ke kb at0) ++ fr) H := hP
          have hD : va_D A ((wZ cI cL z0 y1 y2 y3 y4 y5 y6 y7 y8 y9 y10 y11 y12 y13 y14 mn oo oa ob ss gg zz md sd da rg pp kp ot 3 li bl nw wr ru al sp en ke kb at0) ++ fr) := hD
          rw [hQ]; exact retMi (w1 := fun u : Int32 × Fn => ((wZ cI cL z0 y1 y2 y3 y4 y5 y6 y7 y8 y9 y10 y11 y12 y13 y14 mn oo oa ob ss gg zz u.2 sd da rg pp kp ot u.1 li bl nw wr ru al sp en ke kb at0) ++ fr)) (3, md) hx hb hr hlocks hP hD hS (by first | (simp only [zaltF, if_neg c_5, if_pos c_17, if_neg c_39, if_pos c_50]; done) | simp [zaltF, c_5, c_17, c_39, c_50]) d_Z_alter_58
    · refine lv_aload_n hx hb d_Z_alter_20 rfl (lv_at hl 0 rfl) ?_
      refine lv_iconst (v := 2) hx hb d_Z_alter_21 (by decide) ?_
      refine goMi (va_runV (As := [.int 2]) (rest := []) ⟨hx, hb, hml, hown, hts⟩ (c_Z_fail l D cI cL cO z0 y1 y2 y3 y4 y5 y6 y7 y8 y9 y10 y11 y12 y13 y14 mn oo oa ob ss gg zz md sd da rg pp kp ot (if wiF k 0 (bl - 1) = 0 then 1 else 0) li bl nw wr ru al sp en ke kb at0 fr 2 H.size) (cwV 1 hts (gBIG (m4 k_ml_Z_67 k_im_Z_fail k_sel_Z_fail k_ini_Z) k_co_Z_fail) rfl rfl rfl (by decide +kernel) ⟨Nat.le_of_ble_eq_true rfl, Nat.le_of_ble_eq_true rfl⟩) ⟨PM.bl, va_recv hK.1 hP (ci := 5) (q0 := 0) rfl rfl, PM.pre hP hD hK⟩ rfl rfl hl.1 rfl (lv_room (Nat.le_of_ble_eq_true rfl)) d_Z_alter_22 ⟨Nat.le_of_ble_eq_true rfl, Nat.le_of_ble_eq_true rfl⟩) hD hS hA (fun r_22 u H locs hw hP hD hS => ?_)
      obtain ⟨rfl, rfl⟩ := hw
      have hP : va_P D vwCl ((wZ cI cL z0 y1 y2 y3 y4 y5 y6 y7 y8 y9 y10 y11 y12 y13 y14 mn oo oa ob ss gg zz md sd da rg pp kp ot 2 li bl nw wr ru al sp en ke kb at0) ++ fr) H := hP
      have hD : va_D A ((wZ cI cL z0 y1 y2 y3 y4 y5 y6 y7 y8 y9 y10 y11 y12 y13 y14 mn oo oa ob ss gg zz md sd da rg pp kp ot 2 li bl nw wr ru al sp en ke kb at0) ++ fr) := hD
      rw [hQ]; exact retMi (w1 := fun u : Int32 × Fn => ((wZ cI cL z0 y1 y2 y3 y4 y5 y6 y7 y8 y9 y10 y11 y12 y13 y14 mn oo oa ob ss gg zz u.2 sd da rg pp kp ot u.1 li bl nw wr ru al sp en ke kb at0) ++ fr)) (2, md) hx hb hr hlocks hP hD hS (by first | (simp only [zaltF, if_neg c_5, if_neg c_17]; done) | simp [zaltF, c_5, c_17]) d_Z_alter_25
  · refine lv_iconst (v := 0) hx hb d_Z_alter_8 (by decide) ?_
    rw [hQ]; exact retMi (w1 := fun u : Int32 × Fn => ((wZ cI cL z0 y1 y2 y3 y4 y5 y6 y7 y8 y9 y10 y11 y12 y13 y14 mn oo oa ob ss gg zz u.2 sd da rg pp kp ot u.1 li bl nw wr ru al sp en ke kb at0) ++ fr)) (if wiF k 0 (bl - 1) = 0 then 1 else 0, md) hx hb hr hlocks hP hD hS (by first | (simp only [zaltF, if_pos c_5]; done) | simp [zaltF, c_5]) d_Z_alter_9

abbrev w_Z_what : List Cond := .code y_Z_what b_Z_what 3 (some .int) :: BIG
set_option maxHeartbeats 4000000 in
set_option maxRecDepth 100000 in
theorem c_Z_what (l : Launch) (D : va_G) (cI cL cO : ClassId) (z0 : Nat) (y1 : Nat) (y2 : Nat) (y3 : Nat) (y4 : Nat) (y5 : Nat) (y6 : Nat) (y7 : Nat) (y8 : Nat) (y9 : Nat) (y10 : Nat) (y11 : Nat) (y12 : Nat) (y13 : Nat) (y14 : Nat) (mn : Fn) (oo : Fn) (oa : Fn) (ob : Fn) (ss : Fn) (gg : Fn) (zz : Fn) (md : Fn) (sd : Fn) (da : Fn) (rg : FL) (pp : FL) (kp : FL) (ot : FL) (th : Int32) (li : Int32) (bl : Int32) (nw : Int32) (wr : Int32) (ru : Int32) (al : Int32) (sp : Int32) (en : Int32) (ke : Int32) (kb : Int32) (at0 : Int32) (fr : va_W) (k : Int32) (w : Int32) (hbl : 0 ≤ bl.toInt ∧ bl.toInt ≤ 24) : CMi l y_Z_what w_Z_what ({ frames := 2, cells := 0, slots := 0, locals := 43 }) D cI cL cO [.ref z0, .int k, .int w] ((wZ cI cL z0 y1 y2 y3 y4 y5 y6 y7 y8 y9 y10 y11 y12 y13 y14 mn oo oa ob ss gg zz md sd da rg pp kp ot th li bl nw wr ru al sp en ke kb at0) ++ fr) (fun (r : Int32) (u : Int32) => (r, u) = zwhaF k w bl mn ss gg zz) (fun u : Int32 => ((wZ cI cL z0 y1 y2 y3 y4 y5 y6 y7 y8 y9 y10 y11 y12 y13 y14 mn oo oa ob ss gg zz md sd da rg pp kp ot u li bl nw wr ru al sp en ke kb at0) ++ fr)) 0 0 := by
  refine ofMi (cc := b_Z_what) (maxL := 3) (ret := (some .int)) (by decide) rfl (Nat.le_of_ble_eq_true rfl) ?_
  intro p e s m below meth c A ls H Q hQ hx hb hr hlocks hin hts hown hml hP hK hD hS hA hl
  have hl : lv_has ls 3 [(0, .ref z0), (1, .int k), (2, .int w)] := hl
  have hown : s.vm.findClass R_Z = some m.cls := hown
  have ht : ∀ w ∈ BIG, w.before _ s = true := fun w h => hts w (List.mem_cons_of_mem _ h)
  refine lv_aload_n hx hb d_Z_what_0 rfl (lv_at hl 0 rfl) ?_
  refine lv_iload_n hx hb d_Z_what_1 rfl (lv_at hl 1 rfl) ?_
  refine goMi (va_runV (As := [.int k]) (rest := []) ⟨hx, hb, hml, hown, hts⟩ (c_Z_isBlock l D cI cL cO z0 y1 y2 y3 y4 y5 y6 y7 y8 y9 y10 y11 y12 y13 y14 mn oo oa ob ss gg zz md sd da rg pp kp ot th li bl nw wr ru al sp en ke kb at0 fr k H.size) (cwV 1 hts (gBIG (m4 k_ml_Z_71 k_im_Z_isBlock k_sel_Z_isBlock k_ini_Z) k_co_Z_isBlock) rfl rfl rfl (by decide +kernel) ⟨Nat.le_of_ble_eq_true rfl, Nat.le_of_ble_eq_true rfl⟩) ⟨PM.bl, va_recv hK.1 hP (ci := 5) (q0 := 0) rfl rfl, PM.pre hP hD hK⟩ rfl rfl hl.1 rfl (lv_room (Nat.le_of_ble_eq_true rfl)) d_Z_what_2 ⟨Nat.le_of_ble_eq_true rfl, Nat.le_of_ble_eq_true rfl⟩) hD hS hA (fun r_2 u H locs hw hP hD hS => ?_)
  obtain ⟨rfl, rfl⟩ := hw
  have hP : va_P D vwCl ((wZ cI cL z0 y1 y2 y3 y4 y5 y6 y7 y8 y9 y10 y11 y12 y13 y14 mn oo oa ob ss gg zz md sd da rg pp kp ot (if wiF k 0 (bl - 1) = 0 then 1 else 0) li bl nw wr ru al sp en ke kb at0) ++ fr) H := hP
  have hD : va_D A ((wZ cI cL z0 y1 y2 y3 y4 y5 y6 y7 y8 y9 y10 y11 y12 y13 y14 mn oo oa ob ss gg zz md sd da rg pp kp ot (if wiF k 0 (bl - 1) = 0 then 1 else 0) li bl nw wr ru al sp en ke kb at0) ++ fr) := hD
  refine lv_if_ne (tgt := 10) hx hb d_Z_what_5 (by decide) (fun c_5 => ?_) (fun c_5 => ?_)
  · refine lv_iload_n hx hb d_Z_what_10 rfl (lv_at hl 2 rfl) ?_
    by_cases c_11_0 : w = 0
    · refine lv_tableIn (off := 29) (tgt := 40) hx hb d_Z_what_11 (by rw [c_11_0]; decide) (by rw [c_11_0]; decide) (by rw [c_11_0] <;> rfl) (by decide) ?_
      refine lv_aload_n hx hb d_Z_what_40 rfl (lv_at hl 0 rfl) ?_
      refine va_get (ci := 5) (v := .ref y5) (C := R_Z) (T := T_Z) (N := 26) hx hb ht in_Z hown hK.1 hP 0 rfl rfl 11 (by decide) (ht _ k_fl_Z_22) (fun _ h9 => h9) rfl d_Z_what_41 ?_
      refine lv_iload_n hx hb d_Z_what_44 rfl (lv_at hl 1 rfl) ?_
      refine va_iald hx hb hK.1 hP 5 0 rfl rfl (in_k (wi_k hbl c_5)) d_Z_what_45 ?_
      rw [hQ]; exact retMi (w1 := fun u : Int32 => ((wZ cI cL z0 y1 y2 y3 y4 y5 y6 y7 y8 y9 y10 y11 y12 y13 y14 mn oo oa ob ss gg zz md sd da rg pp kp ot u li bl nw wr ru al sp en ke kb at0) ++ fr)) (if wiF k 0 (bl - 1) = 0 then 1 else 0) hx hb hr hlocks hP hD hS (by first | (simp only [zwhaF, if_neg c_5, if_pos c_11_0]; done) | simp [zwhaF, c_5, c_11_0]) d_Z_what_46
    by_cases c_11_1 : w = 1
    · refine lv_tableIn (off := 36) (tgt := 47) hx hb d_Z_what_11 (by rw [c_11_1]; decide) (by rw [c_11_1]; decide) (by rw [c_11_1] <;> rfl) (by decide) ?_
      refine lv_aload_n hx hb d_Z_what_47 rfl (lv_at hl 0 rfl) ?_
      refine va_get (ci := 5) (v := .ref y5) (C := R_Z) (T := T_Z) (N := 26) hx hb ht in_Z hown hK.1 hP 0 rfl rfl 11 (by decide) (ht _ k_fl_Z_22) (fun _ h9 => h9) rfl d_Z_what_48 ?_
      refine lv_iload_n hx hb d_Z_what_51 rfl (lv_at hl 1 rfl) ?_
      refine va_iald hx hb hK.1 hP 5 0 rfl rfl (in_k (wi_k hbl c_5)) d_Z_what_52 ?_
      refine lv_if_ne (tgt := 60) hx hb d_Z_what_53 (by decide) (fun c_53 => ?_) (fun c_53 => ?_)
      · refine lv_aload_n hx hb d_Z_what_60 rfl (lv_at hl 0 rfl) ?_
        refine va_get (ci := 5) (v := .ref y6) (C := R_Z) (T := T_Z) (N := 26) hx hb ht in_Z hown hK.1 hP 0 rfl rfl 12 (by decide) (ht _ k_fl_Z_25) (fun _ h9 => h9) rfl d_Z_what_61 ?_
        refine lv_iload_n hx hb d_Z_what_64 rfl (lv_at hl 1 rfl) ?_
        refine va_iald hx hb hK.1 hP 6 0 rfl rfl (in_k (wi_k hbl c_5)) d_Z_what_65 ?_
        rw [hQ]; exact retMi (w1 := fun u : Int32 => ((wZ cI cL z0 y1 y2 y3 y4 y5 y6 y7 y8 y9 y10 y11 y12 y13 y14 mn oo oa ob ss gg zz md sd da rg pp kp ot u li bl nw wr ru al sp en ke kb at0) ++ fr)) (if wiF k 0 (bl - 1) = 0 then 1 else 0) hx hb hr hlocks hP hD hS (by first | (simp only [zwhaF, if_neg c_5, if_neg c_11_0, if_pos c_11_1, if_neg c_53]; done) | simp [zwhaF, c_5, c_11_0, c_11_1, c_53]) d_Z_what_66
      · refine lv_iconst (v := (-1)) hx hb d_Z_what_56 (by decide) ?_
        refine lv_goto (tgt := 66) hx hb d_Z_what_57 (by decide) ?_
        rw [hQ]; exact retMi (w1 := fun u : Int32 => ((wZ cI cL z0 y1 y2 y3 y4 y5 y6 y7 y8 y9 y10 y11 y12 y13 y14 mn oo oa ob ss gg zz md sd da rg pp kp ot u li bl nw wr ru al sp en ke kb at0) ++ fr)) (if wiF k 0 (bl - 1) = 0 then 1 else 0) hx hb hr hlocks hP hD hS (by first | (simp only [zwhaF, if_neg c_5, if_neg c_11_0, if_pos c_11_1, if_pos c_53]; done) | simp [zwhaF, c_5, c_11_0, c_11_1, c_53]) d_Z_what_66
    by_cases c_11_2 : w = 2
    · refine lv_tableIn (off := 56) (tgt := 67) hx hb d_Z_what_11 (by rw [c_11_2]; decide) (by rw [c_11_2]; decide) (by rw [c_11_2] <;> rfl) (by decide) ?_
      refine lv_aload_n hx hb d_Z_what_67 rfl (lv_at hl 0 rfl) ?_
      refine va_get (ci := 5) (v := .ref y1) (C := R_Z) (T := T_Z) (N := 26) hx hb ht in_Z hown hK.1 hP 0 rfl rfl 7 (by decide) (ht _ k_fl_Z_7) (fun _ h9 => h9) rfl d_Z_what_68 ?_
      refine lv_iload_n hx hb d_Z_what_71 rfl (lv_at hl 1 rfl) ?_
      refine va_iald hx hb hK.1 hP 1 0 rfl rfl (in_k (wi_k hbl c_5)) d_Z_what_72 ?_
      rw [hQ]; exact retMi (w1 := fun u : Int32 => ((wZ cI cL z0 y1 y2 y3 y4 y5 y6 y7 y8 y9 y10 y11 y12 y13 y14 mn oo oa ob ss gg zz md sd da rg pp kp ot u li bl nw wr ru al sp en ke kb at0) ++ fr)) (if wiF k 0 (bl - 1) = 0 then 1 else 0) hx hb hr hlocks hP hD hS (by first | (simp only [zwhaF, if_neg c_5, if_neg c_11_0, if_neg c_11_1, if_pos c_11_2]; done) | simp [zwhaF, c_5, c_11_0, c_11_1, c_11_2]) d_Z_what_73
    by_cases c_11_3 : w = 3
    · refine lv_tableIn (off := 63) (tgt := 74) hx hb d_Z_what_11 (by rw [c_11_3]; decide) (by rw [c_11_3]; decide) (by rw [c_11_3] <;> rfl) (by decide) ?_
      refine lv_aload_n hx hb d_Z_what_74 rfl (lv_at hl 0 rfl) ?_
      refine va_get (ci := 5) (v := .ref y5) (C := R_Z) (T := T_Z) (N := 26) hx hb ht in_Z hown hK.1 hP 0 rfl rfl 11 (by decide) (ht _ k_fl_Z_22) (fun _ h9 => h9) rfl d_Z_what_75 ?_
      refine lv_iload_n hx hb d_Z_what_78 rfl (lv_at hl 1 rfl) ?_
      refine va_iald hx hb hK.1 hP 5 0 rfl rfl (in_k (wi_k hbl c_5)) d_Z_what_79 ?_
      refine lv_if_ne (tgt := 87) hx hb d_Z_what_80 (by decide) (fun c_80 => ?_) (fun c_80 => ?_)
      · refine lv_aload_n hx hb d_Z_what_87 rfl (lv_at hl 0 rfl) ?_
        refine va_get (ci := 5) (v := .ref y7) (C := R_Z) (T := T_Z) (N := 26) hx hb ht in_Z hown hK.1 hP 0 rfl rfl 13 (by decide) (ht _ k_fl_Z_28) (fun _ h9 => h9) rfl d_Z_what_88 ?_
        refine lv_iload_n hx hb d_Z_what_91 rfl (lv_at hl 1 rfl) ?_
        refine va_iald hx hb hK.1 hP 7 0 rfl rfl (in_k (wi_k hbl c_5)) d_Z_what_92 ?_
        rw [hQ]; exact retMi (w1 := fun u : Int32 => ((wZ cI cL z0 y1 y2 y3 y4 y5 y6 y7 y8 y9 y10 y11 y12 y13 y14 mn oo oa ob ss gg zz md sd da rg pp kp ot u li bl nw wr ru al sp en ke kb at0) ++ fr)) (if wiF k 0 (bl - 1) = 0 then 1 else 0) hx hb hr hlocks hP hD hS (by first | (simp only [zwhaF, if_neg c_5, if_neg c_11_0, if_neg c_11_1, if_neg c_11_2, if_pos c_11_3, if_neg c_80]; done) | simp [zwhaF, c_5, c_11_0, c_11_1, c_11_2, c_11_3, c_80]) d_Z_what_93
      · refine lv_iconst (v := 0) hx hb d_Z_what_83 (by decide) ?_
        refine lv_goto (tgt := 93) hx hb d_Z_what_84 (by decide) ?_
        rw [hQ]; exact retMi (w1 := fun u : Int32 => ((wZ cI cL z0 y1 y2 y3 y4 y5 y6 y7 y8 y9 y10 y11 y12 y13 y14 mn oo oa ob ss gg zz md sd da rg pp kp ot u li bl nw wr ru al sp en ke kb at0) ++ fr)) (if wiF k 0 (bl - 1) = 0 then 1 else 0) hx hb hr hlocks hP hD hS (by first | (simp only [zwhaF, if_neg c_5, if_neg c_11_0, if_neg c_11_1, if_neg c_11_2, if_pos c_11_3, if_pos c_80]; done) | simp [zwhaF, c_5, c_11_0, c_11_1, c_11_2, c_11_3, c_80]) d_Z_what_93
    refine lv_tableOut (tgt := 94) hx hb d_Z_what_11 (by have := lv_neT c_11_0 (show (0 : Int32).toInt = 0 by decide); have := lv_neT c_11_1 (show (1 : Int32).toInt = 1 by decide); have := lv_neT c_11_2 (show (2 : Int32).toInt = 2 by decide); have := lv_neT c_11_3 (show (3 : Int32).toInt = 3 by decide); omega) (by decide) ?_
    refine lv_aload_n hx hb d_Z_what_94 rfl (lv_at hl 0 rfl) ?_
    refine lv_iconst (v := 2) hx hb d_Z_what_95 (by decide) ?_
    refine goMi (va_runV (As := [.int 2]) (rest := []) ⟨hx, hb, hml, hown, hts⟩ (c_Z_fail l D cI cL cO z0 y1 y2 y3 y4 y5 y6 y7 y8 y9 y10 y11 y12 y13 y14 mn oo oa ob ss gg zz md sd da rg pp kp ot (if wiF k 0 (bl - 1) = 0 then 1 else 0) li bl nw wr ru al sp en ke kb at0 fr 2 H.size) (cwV 1 hts (gBIG (m4 k_ml_Z_67 k_im_Z_fail k_sel_Z_fail k_ini_Z) k_co_Z_fail) rfl rfl rfl (by decide +kernel) ⟨Nat.le_of_ble_eq_true rfl, Nat.le_of_ble_eq_true rfl⟩) ⟨PM.bl, va_recv hK.1 hP (ci := 5) (q0 := 0) rfl rfl, PM.pre hP hD hK⟩ rfl rfl hl.1 rfl (lv_room (Nat.le_of_ble_eq_true rfl)) d_Z_what_96 ⟨Nat.le_of_ble_eq_true rfl, Nat.le_of_ble_eq_true rfl⟩) hD hS hA (fun r_96 u H locs hw hP hD hS => ?_)
    obtain ⟨rfl, rfl⟩ := hw
    have hP : va_P D vwCl ((wZ cI cL z0 y1 y2 y3 y4 y5 y6 y7 y8 y9 y10 y11 y12 y13 y14 mn oo oa ob ss gg zz md sd da rg pp kp ot 2 li bl nw wr ru al sp en ke kb at0) ++ fr) H := hP
    have hD : va_D A ((wZ cI cL z0 y1 y2 y3 y4 y5 y6 y7 y8 y9 y10 y11 y12 y13 y14 mn oo oa ob ss gg zz md sd da rg pp kp ot 2 li bl nw wr ru al sp en ke kb at0) ++ fr) := hD
    rw [hQ]; exact retMi (w1 := fun u : Int32 => ((wZ cI cL z0 y1 y2 y3 y4 y5 y6 y7 y8 y9 y10 y11 y12 y13 y14 mn oo oa ob ss gg zz md sd da rg pp kp ot u li bl nw wr ru al sp en ke kb at0) ++ fr)) 2 hx hb hr hlocks hP hD hS (by first | (simp only [zwhaF, if_neg c_5, if_neg c_11_0, if_neg c_11_1, if_neg c_11_2, if_neg c_11_3]; done) | simp [zwhaF, c_5, c_11_0, c_11_1, c_11_2, c_11_3]) d_Z_what_99
  · refine lv_iconst (v := 0) hx hb d_Z_what_8 (by decide) ?_
    rw [hQ]; exact retMi (w1 := fun u : Int32 => ((wZ cI cL z0 y1 y2 y3 y4 y5 y6 y7 y8 y9 y10 y11 y12 y13 y14 mn oo oa ob ss gg zz md sd da rg pp kp ot u li bl nw wr ru al sp en ke kb at0) ++ fr)) (if wiF k 0 (bl - 1) = 0 then 1 else 0) hx hb hr hlocks hP hD hS (by first | (simp only [zwhaF, if_pos c_5]; done) | simp [zwhaF, c_5]) d_Z_what_9

abbrev w_Z_register : List Cond := .code y_Z_register b_Z_register 2 (some .long) :: BIG
set_option maxHeartbeats 4000000 in
set_option maxRecDepth 100000 in
theorem c_Z_register (l : Launch) (D : va_G) (cI cL cO : ClassId) (z0 : Nat) (y1 : Nat) (y2 : Nat) (y3 : Nat) (y4 : Nat) (y5 : Nat) (y6 : Nat) (y7 : Nat) (y8 : Nat) (y9 : Nat) (y10 : Nat) (y11 : Nat) (y12 : Nat) (y13 : Nat) (y14 : Nat) (mn : Fn) (oo : Fn) (oa : Fn) (ob : Fn) (ss : Fn) (gg : Fn) (zz : Fn) (md : Fn) (sd : Fn) (da : Fn) (rg : FL) (pp : FL) (kp : FL) (ot : FL) (th : Int32) (li : Int32) (bl : Int32) (nw : Int32) (wr : Int32) (ru : Int32) (al : Int32) (sp : Int32) (en : Int32) (ke : Int32) (kb : Int32) (at0 : Int32) (fr : va_W) (i : Int32) : CMl l y_Z_register w_Z_register ({ frames := 1, cells := 0, slots := 0, locals := 22 }) D cI cL cO [.ref z0, .int i] ((wZ cI cL z0 y1 y2 y3 y4 y5 y6 y7 y8 y9 y10 y11 y12 y13 y14 mn oo oa ob ss gg zz md sd da rg pp kp ot th li bl nw wr ru al sp en ke kb at0) ++ fr) (fun (r : Int64) (u : Int32) => (r, u) = (if wiF i 0 3 = 0 then (0, 1) else (kp i.toNatClampNeg, 0))) (fun u : Int32 => ((wZ cI cL z0 y1 y2 y3 y4 y5 y6 y7 y8 y9 y10 y11 y12 y13 y14 mn oo oa ob ss gg zz md sd da rg pp kp ot u li bl nw wr ru al sp en ke kb at0) ++ fr)) 0 0 := by
  refine ofMl (cc := b_Z_register) (maxL := 2) (ret := (some .long)) (by decide) rfl (Nat.le_of_ble_eq_true rfl) ?_
  intro p e s m below meth c A ls H Q hQ hx hb hr hlocks hin hts hown hml hP hK hD hS hA hl
  have hl : lv_has ls 2 [(0, .ref z0), (1, .int i)] := hl
  have hown : s.vm.findClass R_Z = some m.cls := hown
  have ht : ∀ w ∈ BIG, w.before _ s = true := fun w h => hts w (List.mem_cons_of_mem _ h)
  refine lv_aload_n hx hb d_Z_register_0 rfl (lv_at hl 0 rfl) ?_
  refine lv_iload_n hx hb d_Z_register_1 rfl (lv_at hl 1 rfl) ?_
  refine lv_iconst (v := 0) hx hb d_Z_register_2 (by decide) ?_
  refine lv_iconst (v := 3) hx hb d_Z_register_3 (by decide) ?_
  refine goRi (va_runS (As := [.int i, .int 0, .int 3]) (rest := [.ref z0]) ⟨hx, hb, hml, hown, hts⟩ (c_Z_within l D cI cL cO i 0 3) (cwS 3 hts (gBIG (m3 k_ml_Z_63 k_st_Z_within k_ini_Z) k_co_Z_within) rfl rfl rfl (by decide +kernel) ⟨Nat.le_of_ble_eq_true rfl, Nat.le_of_ble_eq_true rfl⟩) ⟨PR.bl, PR.pre P_nil hK⟩ rfl rfl hl.1 rfl (lv_room (Nat.le_of_ble_eq_true rfl)) d_Z_register_4 ⟨Nat.le_of_ble_eq_true rfl, Nat.le_of_ble_eq_true rfl⟩) ?_
  refine lv_if_eq (tgt := 14) hx hb d_Z_register_7 (by decide) (fun c_7 => ?_) (fun c_7 => ?_)
  · refine lv_iconst (v := 1) hx hb d_Z_register_14 (by decide) ?_
    refine va_put (ci := 5) (v := .int 1) (ty := .int) (C := R_Z) (T := T_Z) (N := 26) hx hb ht in_Z t_Z t_Z_ok n_Z hown hK.1 hP hD hS 0 rfl rfl 0 (by decide) (ht _ k_fl_Z_57) (fun _ h9 => h9) rfl (by decide +kernel) rfl rfl (Nat.le_of_ble_eq_true rfl) d_Z_register_15 (fun H locs hP hD hS => ?_)
    have hP : va_P D vwCl ((wZ cI cL z0 y1 y2 y3 y4 y5 y6 y7 y8 y9 y10 y11 y12 y13 y14 mn oo oa ob ss gg zz md sd da rg pp kp ot 1 li bl nw wr ru al sp en ke kb at0) ++ fr) H := hP
    have hD : va_D A ((wZ cI cL z0 y1 y2 y3 y4 y5 y6 y7 y8 y9 y10 y11 y12 y13 y14 mn oo oa ob ss gg zz md sd da rg pp kp ot 1 li bl nw wr ru al sp en ke kb at0) ++ fr) := hD
    refine lv_aload_n hx hb d_Z_register_18 rfl (lv_at hl 0 rfl) ?_
    refine va_get (ci := 5) (v := .int 1) (C := R_Z) (T := T_Z) (N := 26) hx hb ht in_Z hown hK.1 hP 0 rfl rfl 0 (by decide) (ht _ k_fl_Z_57) (fun _ h9 => h9) rfl d_Z_register_19 ?_
    refine lv_if_ne (tgt := 34) hx hb d_Z_register_22 (by decide) (fun c_22 => ?_) (fun c_22 => ?_)
    · refine lv_lconst (v := 0) hx hb d_Z_register_34 (by decide) ?_
      rw [hQ]; exact retMl (w1 := fun u : Int32 => ((wZ cI cL z0 y1 y2 y3 y4 y5 y6 y7 y8 y9 y10 y11 y12 y13 y14 mn oo oa ob ss gg zz md sd da rg pp kp ot u li bl nw wr ru al sp en ke kb at0) ++ fr)) 1 hx hb hr hlocks hP hD hS (by first | (simp only [if_pos c_7]; done) | simp [c_7]) d_Z_register_35
    · exact absurd c_22 (by decide)
  · refine lv_iconst (v := 0) hx hb d_Z_register_10 (by decide) ?_
    refine lv_goto (tgt := 15) hx hb d_Z_register_11 (by decide) ?_
    refine va_put (ci := 5) (v := .int 0) (ty := .int) (C := R_Z) (T := T_Z) (N := 26) hx hb ht in_Z t_Z t_Z_ok n_Z hown hK.1 hP hD hS 0 rfl rfl 0 (by decide) (ht _ k_fl_Z_57) (fun _ h9 => h9) rfl (by decide +kernel) rfl rfl (Nat.le_of_ble_eq_true rfl) d_Z_register_15 (fun H locs hP hD hS => ?_)
    have hP : va_P D vwCl ((wZ cI cL z0 y1 y2 y3 y4 y5 y6 y7 y8 y9 y10 y11 y12 y13 y14 mn oo oa ob ss gg zz md sd da rg pp kp ot 0 li bl nw wr ru al sp en ke kb at0) ++ fr) H := hP
    have hD : va_D A ((wZ cI cL z0 y1 y2 y3 y4 y5 y6 y7 y8 y9 y10 y11 y12 y13 y14 mn oo oa ob ss gg zz md sd da rg pp kp ot 0 li bl nw wr ru al sp en ke kb at0) ++ fr) := hD
    refine lv_aload_n hx hb d_Z_register_18 rfl (lv_at hl 0 rfl) ?_
    refine va_get (ci := 5) (v := .int 0) (C := R_Z) (T := T_Z) (N := 26) hx hb ht in_Z hown hK.1 hP 0 rfl rfl 0 (by decide) (ht _ k_fl_Z_57) (fun _ h9 => h9) rfl d_Z_register_19 ?_
    refine lv_if_ne (tgt := 34) hx hb d_Z_register_22 (by decide) (fun c_22 => ?_) (fun c_22 => ?_)
    · exact absurd c_22 (by decide)
    · refine lv_aload_n hx hb d_Z_register_25 rfl (lv_at hl 0 rfl) ?_
      refine va_get (ci := 5) (v := .ref y13) (C := R_Z) (T := T_Z) (N := 26) hx hb ht in_Z hown hK.1 hP 0 rfl rfl 21 (by decide) (ht _ k_fl_Z_47) (fun _ h9 => h9) rfl d_Z_register_26 ?_
      refine lv_iload_n hx hb d_Z_register_29 rfl (lv_at hl 1 rfl) ?_
      refine va_lald hx hb hK.1 hP 13 1 rfl rfl (in_w4 c_7) d_Z_register_30 ?_
      refine lv_goto (tgt := 35) hx hb d_Z_register_31 (by decide) ?_
      rw [hQ]; exact retMl (w1 := fun u : Int32 => ((wZ cI cL z0 y1 y2 y3 y4 y5 y6 y7 y8 y9 y10 y11 y12 y13 y14 mn oo oa ob ss gg zz md sd da rg pp kp ot u li bl nw wr ru al sp en ke kb at0) ++ fr)) 0 hx hb hr hlocks hP hD hS (by first | (simp only [if_neg c_7]; done) | simp [c_7]) d_Z_register_35

abbrev w_Z_ended : List Cond := .code y_Z_ended b_Z_ended 2 (some .int) :: BIG
set_option maxHeartbeats 4000000 in
set_option maxRecDepth 100000 in
theorem c_Z_ended (l : Launch) (D : va_G) (cI cL cO : ClassId) (z0 : Nat) (y1 : Nat) (y2 : Nat) (y3 : Nat) (y4 : Nat) (y5 : Nat) (y6 : Nat) (y7 : Nat) (y8 : Nat) (y9 : Nat) (y10 : Nat) (y11 : Nat) (y12 : Nat) (y13 : Nat) (y14 : Nat) (mn : Fn) (oo : Fn) (oa : Fn) (ob : Fn) (ss : Fn) (gg : Fn) (zz : Fn) (md : Fn) (sd : Fn) (da : Fn) (rg : FL) (pp : FL) (kp : FL) (ot : FL) (th : Int32) (li : Int32) (bl : Int32) (nw : Int32) (wr : Int32) (ru : Int32) (al : Int32) (sp : Int32) (en : Int32) (ke : Int32) (kb : Int32) (at0 : Int32) (fr : va_W) (w : Int32) : CMi l y_Z_ended w_Z_ended ({ frames := 1, cells := 0, slots := 0, locals := 21 }) D cI cL cO [.ref z0, .int w] ((wZ cI cL z0 y1 y2 y3 y4 y5 y6 y7 y8 y9 y10 y11 y12 y13 y14 mn oo oa ob ss gg zz md sd da rg pp kp ot th li bl nw wr ru al sp en ke kb at0) ++ fr) (fun (r : Int32) (u : Int32) => (r, u) = (if w = 0 then (ke, 0) else if w = 1 then (if kb = 0 then (0, 0) else (1, 0)) else (0, 1))) (fun u : Int32 => ((wZ cI cL z0 y1 y2 y3 y4 y5 y6 y7 y8 y9 y10 y11 y12 y13 y14 mn oo oa ob ss gg zz md sd da rg pp kp ot u li bl nw wr ru al sp en ke kb at0) ++ fr)) 0 0 := by
  refine ofMi (cc := b_Z_ended) (maxL := 2) (ret := (some .int)) (by decide) rfl (Nat.le_of_ble_eq_true rfl) ?_
  intro p e s m below meth c A ls H Q hQ hx hb hr hlocks hin hts hown hml hP hK hD hS hA hl
  have hl : lv_has ls 2 [(0, .ref z0), (1, .int w)] := hl
  have hown : s.vm.findClass R_Z = some m.cls := hown
  have ht : ∀ w ∈ BIG, w.before _ s = true := fun w h => hts w (List.mem_cons_of_mem _ h)
  refine lv_aload_n hx hb d_Z_ended_0 rfl (lv_at hl 0 rfl) ?_
  refine lv_iconst (v := 0) hx hb d_Z_ended_1 (by decide) ?_
  refine va_put (ci := 5) (v := .int 0) (ty := .int) (C := R_Z) (T := T_Z) (N := 26) hx hb ht in_Z t_Z t_Z_ok n_Z hown hK.1 hP hD hS 0 rfl rfl 0 (by decide) (ht _ k_fl_Z_57) (fun _ h9 => h9) rfl (by decide +kernel) rfl rfl (Nat.le_of_ble_eq_true rfl) d_Z_ended_2 (fun H locs hP hD hS => ?_)
  have hP : va_P D vwCl ((wZ cI cL z0 y1 y2 y3 y4 y5 y6 y7 y8 y9 y10 y11 y12 y13 y14 mn oo oa ob ss gg zz md sd da rg pp kp ot 0 li bl nw wr ru al sp en ke kb at0) ++ fr) H := hP
  have hD : va_D A ((wZ cI cL z0 y1 y2 y3 y4 y5 y6 y7 y8 y9 y10 y11 y12 y13 y14 mn oo oa ob ss gg zz md sd da rg pp kp ot 0 li bl nw wr ru al sp en ke kb at0) ++ fr) := hD
  refine lv_iload_n hx hb d_Z_ended_5 rfl (lv_at hl 1 rfl) ?_
  refine lv_if_ne (tgt := 16) hx hb d_Z_ended_6 (by decide) (fun c_6 => ?_) (fun c_6 => ?_)
  · refine lv_iload_n hx hb d_Z_ended_16 rfl (lv_at hl 1 rfl) ?_
    refine lv_iconst (v := 1) hx hb d_Z_ended_17 (by decide) ?_
    refine lv_icmp_ne (tgt := 36) hx hb d_Z_ended_18 (by decide) (fun c_18 => ?_) (fun c_18 => ?_)
    · refine lv_aload_n hx hb d_Z_ended_36 rfl (lv_at hl 0 rfl) ?_
      refine lv_iconst (v := 1) hx hb d_Z_ended_37 (by decide) ?_
      refine goMi (va_runV (As := [.int 1]) (rest := []) ⟨hx, hb, hml, hown, hts⟩ (c_Z_fail l D cI cL cO z0 y1 y2 y3 y4 y5 y6 y7 y8 y9 y10 y11 y12 y13 y14 mn oo oa ob ss gg zz md sd da rg pp kp ot 0 li bl nw wr ru al sp en ke kb at0 fr 1 H.size) (cwV 1 hts (gBIG (m4 k_ml_Z_67 k_im_Z_fail k_sel_Z_fail k_ini_Z) k_co_Z_fail) rfl rfl rfl (by decide +kernel) ⟨Nat.le_of_ble_eq_true rfl, Nat.le_of_ble_eq_true rfl⟩) ⟨PM.bl, va_recv hK.1 hP (ci := 5) (q0 := 0) rfl rfl, PM.pre hP hD hK⟩ rfl rfl hl.1 rfl (lv_room (Nat.le_of_ble_eq_true rfl)) d_Z_ended_38 ⟨Nat.le_of_ble_eq_true rfl, Nat.le_of_ble_eq_true rfl⟩) hD hS hA (fun r_38 u H locs hw hP hD hS => ?_)
      obtain ⟨rfl, rfl⟩ := hw
      have hP : va_P D vwCl ((wZ cI cL z0 y1 y2 y3 y4 y5 y6 y7 y8 y9 y10 y11 y12 y13 y14 mn oo oa ob ss gg zz md sd da rg pp kp ot 1 li bl nw wr ru al sp en ke kb at0) ++ fr) H := hP
      have hD : va_D A ((wZ cI cL z0 y1 y2 y3 y4 y5 y6 y7 y8 y9 y10 y11 y12 y13 y14 mn oo oa ob ss gg zz md sd da rg pp kp ot 1 li bl nw wr ru al sp en ke kb at0) ++ fr) := hD
      rw [hQ]; exact retMi (w1 := fun u : Int32 => ((wZ cI cL z0 y1 y2 y3 y4 y5 y6 y7 y8 y9 y10 y11 y12 y13 y14 mn oo oa ob ss gg zz md sd da rg pp kp ot u li bl nw wr ru al sp en ke kb at0) ++ fr)) 1 hx hb hr hlocks hP hD hS (by first | (simp only [if_neg c_6, if_neg c_18]; done) | simp [c_6, c_18]) d_Z_ended_41
    · refine lv_aload_n hx hb d_Z_ended_21 rfl (lv_at hl 0 rfl) ?_
      refine va_get (ci := 5) (v := .int kb) (C := R_Z) (T := T_Z) (N := 26) hx hb ht in_Z hown hK.1 hP 0 rfl rfl 24 (by decide) (ht _ k_fl_Z_141) (fun _ h9 => h9) rfl d_Z_ended_22 ?_
      refine lv_if_eq (tgt := 32) hx hb d_Z_ended_25 (by decide) (fun c_25 => ?_) (fun c_25 => ?_)
      · refine lv_iconst (v := 0) hx hb d_Z_ended_32 (by decide) ?_
        refine lv_goto (tgt := 41) hx hb d_Z_ended_33 (by decide) ?_
        rw [hQ]; exact retMi (w1 := fun u : Int32 => ((wZ cI cL z0 y1 y2 y3 y4 y5 y6 y7 y8 y9 y10 y11 y12 y13 y14 mn oo oa ob ss gg zz md sd da rg pp kp ot u li bl nw wr ru al sp en ke kb at0) ++ fr)) 0 hx hb hr hlocks hP hD hS (by first | (simp only [if_neg c_6, if_pos c_18, if_pos c_25]; done) | simp [c_6, c_18, c_25]) d_Z_ended_41
      · refine lv_iconst (v := 1) hx hb d_Z_ended_28 (by decide) ?_
        refine lv_goto (tgt := 41) hx hb d_Z_ended_29 (by decide) ?_
        rw [hQ]; exact retMi (w1 := fun u : Int32 => ((wZ cI cL z0 y1 y2 y3 y4 y5 y6 y7 y8 y9 y10 y11 y12 y13 y14 mn oo oa ob ss gg zz md sd da rg pp kp ot u li bl nw wr ru al sp en ke kb at0) ++ fr)) 0 hx hb hr hlocks hP hD hS (by first | (simp only [if_neg c_6, if_pos c_18, if_neg c_25]; done) | simp [c_6, c_18, c_25]) d_Z_ended_41
  · refine lv_aload_n hx hb d_Z_ended_9 rfl (lv_at hl 0 rfl) ?_
    refine va_get (ci := 5) (v := .int ke) (C := R_Z) (T := T_Z) (N := 26) hx hb ht in_Z hown hK.1 hP 0 rfl rfl 23 (by decide) (ht _ k_fl_Z_152) (fun _ h9 => h9) rfl d_Z_ended_10 ?_
    refine lv_goto (tgt := 41) hx hb d_Z_ended_13 (by decide) ?_
    rw [hQ]; exact retMi (w1 := fun u : Int32 => ((wZ cI cL z0 y1 y2 y3 y4 y5 y6 y7 y8 y9 y10 y11 y12 y13 y14 mn oo oa ob ss gg zz md sd da rg pp kp ot u li bl nw wr ru al sp en ke kb at0) ++ fr)) 0 hx hb hr hlocks hP hD hS (by first | (simp only [if_pos c_6]; done) | simp [c_6]) d_Z_ended_41
