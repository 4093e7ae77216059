/-! worlds of the class: a block, the checker, a runner -/
def wB (cI : ClassId) (h0 : Nat) (q1 : Nat) (q2 : Nat) (q3 : Nat) (q4 : Nat) (q5 : Nat) (o : Fn) (f : Fn) (ee : Fn) (t : Fn) (b : Fn) (ic : Int32) (bc : Int32) (sa : Int32) (gn : Int32) : va_W := [(h0, .inr (0, [.ref q1, .ref q2, .ref q3, .ref q4, .ref q5, .int ic, .int bc, .int sa, .int gn])), (q1, .inl (cI, 60, .inl o)), (q2, .inl (cI, 60, .inl f)), (q3, .inl (cI, 60, .inl ee)), (q4, .inl (cI, 61, .inl t)), (q5, .inl (cI, 300, .inl b))]
def wK (k0 : Nat) (k1 : Nat) : va_W := [(k0, .inr (1, [.ref k1]))]
def wU (u0 : Nat) (u1 : Nat) (u2 : Nat) (hg : Int32) (sp : Int32) (en : Int32) (bb : Int32) : va_W := [(u0, .inr (2, [.ref u1, .ref u2, .int hg, .int sp, .int en, .int bb]))]
def wI3 (cI : ClassId) (a0 : Nat) (f : Fn) : va_W := [(a0, .inl (cI, 300, .inl f))]
def wL4 (cL : ClassId) (a0 : Nat) (f : FL) : va_W := [(a0, .inl (cL, 4, .inr (.inl f)))]

abbrev w_M_isRegister : List Cond := .code y_M_isRegister b_M_isRegister 1 (some .boolean) :: BIG
set_option maxHeartbeats 4000000 in
set_option maxRecDepth 100000 in
theorem c_M_isRegister (l : Launch) (D : va_G) (cI cL cO : ClassId) (r : Int32) : CRi l y_M_isRegister w_M_isRegister ({ frames := 0, cells := 0, slots := 0, locals := 0 }) D cI cL cO [.int r] ([]) (isReg r) := by
  refine ofR (cc := b_M_isRegister) (maxL := 1) (ret := (some .boolean)) (by decide) rfl (Nat.le_of_ble_eq_true rfl) ?_
  intro p e s m below meth c ls Q hQ hx hb hr hlocks hts hown hml hP hK hl
  have hl : lv_has ls 1 [(0, .int r)] := hl
  have hown : s.vm.findClass R_M = some m.cls := hown
  have ht : ∀ w ∈ BIG, w.before _ s = true := fun w h => hts w (List.mem_cons_of_mem _ h)
  refine lv_iload_n hx hb d_M_isRegister_0 rfl (lv_at hl 0 rfl) ?_
  refine lv_if_lt (tgt := 13) hx hb d_M_isRegister_1 (by decide) (fun c_1 => ?_) (fun c_1 => ?_)
  · refine lv_iconst (v := 0) hx hb d_M_isRegister_13 (by decide) ?_
    rw [hQ]; exact retRz hx hb hr hlocks rfl (by first | (simp only [isReg, if_pos c_1]; done) | simp [isReg, c_1]) d_M_isRegister_14
  · refine lv_iload_n hx hb d_M_isRegister_4 rfl (lv_at hl 0 rfl) ?_
    refine lv_iconst (v := 4) hx hb d_M_isRegister_5 (by decide) ?_
    refine lv_icmp_ge (tgt := 13) hx hb d_M_isRegister_6 (by decide) (fun c_6 => ?_) (fun c_6 => ?_)
    · refine lv_iconst (v := 0) hx hb d_M_isRegister_13 (by decide) ?_
      rw [hQ]; exact retRz hx hb hr hlocks rfl (by first | (simp only [isReg, if_neg c_1, if_pos c_6]; done) | simp [isReg, c_1, c_6]) d_M_isRegister_14
    · refine lv_iconst (v := 1) hx hb d_M_isRegister_9 (by decide) ?_
      refine lv_goto (tgt := 14) hx hb d_M_isRegister_10 (by decide) ?_
      rw [hQ]; exact retRz hx hb hr hlocks rfl (by first | (simp only [isReg, if_neg c_1, if_neg c_6]; done) | simp [isReg, c_1, c_6]) d_M_isRegister_14

abbrev w_M_isOperand : List Cond := .code y_M_isOperand b_M_isOperand 2 (some .boolean) :: BIG
set_option maxHeartbeats 4000000 in
set_option maxRecDepth 100000 in
theorem c_M_isOperand (l : Launch) (D : va_G) (cI cL cO : ClassId) (op : Int32) (b : Int32) : CRi l y_M_isOperand w_M_isOperand ({ frames := 1, cells := 0, slots := 0, locals := 20 }) D cI cL cO [.int op, .int b] ([]) (isOpnd op b) := by
  refine ofR (cc := b_M_isOperand) (maxL := 2) (ret := (some .boolean)) (by decide) rfl (Nat.le_of_ble_eq_true rfl) ?_
  intro p e s m below meth c ls Q hQ hx hb hr hlocks hts hown hml hP hK hl
  have hl : lv_has ls 2 [(0, .int op), (1, .int b)] := hl
  have hown : s.vm.findClass R_M = some m.cls := hown
  have ht : ∀ w ∈ BIG, w.before _ s = true := fun w h => hts w (List.mem_cons_of_mem _ h)
  refine lv_iload_n hx hb d_M_isOperand_0 rfl (lv_at hl 0 rfl) ?_
  by_cases c_1_0 : op = 0
  · refine lv_lookup (off := 27) (tgt := 28) hx hb d_M_isOperand_1 (by decide) (by rw [c_1_0] <;> rfl) (by decide) ?_
    refine lv_iconst (v := 1) hx hb d_M_isOperand_28 (by decide) ?_
    rw [hQ]; exact retRz hx hb hr hlocks rfl (by first | (simp only [isOpnd, if_pos c_1_0]; done) | simp [isOpnd, c_1_0]) d_M_isOperand_29
  by_cases c_1_6 : op = 6
  · refine lv_lookup (off := 29) (tgt := 30) hx hb d_M_isOperand_1 (by decide) (by rw [c_1_6] <;> rfl) (by decide) ?_
    refine lv_iload_n hx hb d_M_isOperand_30 rfl (lv_at hl 1 rfl) ?_
    refine lv_if_lt (tgt := 44) hx hb d_M_isOperand_31 (by decide) (fun c_31 => ?_) (fun c_31 => ?_)
    · refine lv_iconst (v := 0) hx hb d_M_isOperand_44 (by decide) ?_
      rw [hQ]; exact retRz hx hb hr hlocks rfl (by first | (simp only [isOpnd, if_neg c_1_0, if_pos c_1_6, if_pos c_31]; done) | simp [isOpnd, c_1_0, c_1_6, c_31]) d_M_isOperand_45
    · refine lv_iload_n hx hb d_M_isOperand_34 rfl (lv_at hl 1 rfl) ?_
      refine lv_bipush (v := 60) hx hb d_M_isOperand_35 (by decide) ?_
      refine lv_icmp_gt (tgt := 44) hx hb d_M_isOperand_37 (by decide) (fun c_37 => ?_) (fun c_37 => ?_)
      · refine lv_iconst (v := 0) hx hb d_M_isOperand_44 (by decide) ?_
        rw [hQ]; exact retRz hx hb hr hlocks rfl (by first | (simp only [isOpnd, if_neg c_1_0, if_pos c_1_6, if_neg c_31, if_pos c_37]; done) | simp [isOpnd, c_1_0, c_1_6, c_31, c_37]) d_M_isOperand_45
      · refine lv_iconst (v := 1) hx hb d_M_isOperand_40 (by decide) ?_
        refine lv_goto (tgt := 45) hx hb d_M_isOperand_41 (by decide) ?_
        rw [hQ]; exact retRz hx hb hr hlocks rfl (by first | (simp only [isOpnd, if_neg c_1_0, if_pos c_1_6, if_neg c_31, if_neg c_37]; done) | simp [isOpnd, c_1_0, c_1_6, c_31, c_37]) d_M_isOperand_45
  refine lv_lookup (off := 45) (tgt := 46) hx hb d_M_isOperand_1 (by decide) (by rw [lv_osw c_1_0 (by decide), lv_osw c_1_6 (by decide)] <;> rfl) (by decide) ?_
  refine lv_iload_n hx hb d_M_isOperand_46 rfl (lv_at hl 1 rfl) ?_
  refine goRi (va_runS (As := [.int b]) (rest := []) ⟨hx, hb, hml, hown, hts⟩ (c_M_isRegister l D cI cL cO b) (cwS 1 hts (gBIG (m3 k_ml_M_68 k_st_M_isRegister k_ini_M) k_co_M_isRegister) rfl rfl rfl (by decide +kernel) ⟨Nat.le_of_ble_eq_true rfl, Nat.le_of_ble_eq_true rfl⟩) ⟨PR.bl, PR.pre P_nil hK⟩ rfl rfl hl.1 rfl (lv_room (Nat.le_of_ble_eq_true rfl)) d_M_isOperand_47 ⟨Nat.le_of_ble_eq_true rfl, Nat.le_of_ble_eq_true rfl⟩) ?_
  rw [hQ]; exact retRz hx hb hr hlocks (isReg_nz _) (by first | (simp only [isOpnd, if_neg c_1_0, if_neg c_1_6]; done) | simp [isOpnd, c_1_0, c_1_6]) d_M_isOperand_50

abbrev w_M_lengthOf : List Cond := .code y_M_lengthOf b_M_lengthOf 1 (some .int) :: BIG
set_option maxHeartbeats 4000000 in
set_option maxRecDepth 100000 in
theorem c_M_lengthOf (l : Launch) (D : va_G) (cI cL cO : ClassId) (cd : Int32) : CRi l y_M_lengthOf w_M_lengthOf ({ frames := 0, cells := 0, slots := 0, locals := 0 }) D cI cL cO [.int cd] ([]) (lenOf cd) := by
  refine ofR (cc := b_M_lengthOf) (maxL := 1) (ret := (some .int)) (by decide) rfl (Nat.le_of_ble_eq_true rfl) ?_
  intro p e s m below meth c ls Q hQ hx hb hr hlocks hts hown hml hP hK hl
  have hl : lv_has ls 1 [(0, .int cd)] := hl
  have hown : s.vm.findClass R_M = some m.cls := hown
  have ht : ∀ w ∈ BIG, w.before _ s = true := fun w h => hts w (List.mem_cons_of_mem _ h)
  refine lv_iload_n hx hb d_M_lengthOf_0 rfl (lv_at hl 0 rfl) ?_
  by_cases c_1_1 : cd = 1
  · refine lv_tableIn (off := 79) (tgt := 80) hx hb d_M_lengthOf_1 (by rw [c_1_1]; decide) (by rw [c_1_1]; decide) (by rw [c_1_1] <;> rfl) (by decide) ?_
    refine lv_iconst (v := 2) hx hb d_M_lengthOf_80 (by decide) ?_
    rw [hQ]; exact retRi hx hb hr hlocks (by first | (simp only [lenOf, if_pos c_1_1]; done) | simp [lenOf, c_1_1]) d_M_lengthOf_81
  by_cases c_1_2 : cd = 2
  · refine lv_tableIn (off := 79) (tgt := 80) hx hb d_M_lengthOf_1 (by rw [c_1_2]; decide) (by rw [c_1_2]; decide) (by rw [c_1_2] <;> rfl) (by decide) ?_
    refine lv_iconst (v := 2) hx hb d_M_lengthOf_80 (by decide) ?_
    rw [hQ]; exact retRi hx hb hr hlocks (by first | (simp only [lenOf, if_neg c_1_1, if_pos c_1_2]; done) | simp [lenOf, c_1_1, c_1_2]) d_M_lengthOf_81
  by_cases c_1_3 : cd = 3
  · refine lv_tableIn (off := 81) (tgt := 82) hx hb d_M_lengthOf_1 (by rw [c_1_3]; decide) (by rw [c_1_3]; decide) (by rw [c_1_3] <;> rfl) (by decide) ?_
    refine lv_iconst (v := 5) hx hb d_M_lengthOf_82 (by decide) ?_
    rw [hQ]; exact retRi hx hb hr hlocks (by first | (simp only [lenOf, if_neg c_1_1, if_neg c_1_2, if_pos c_1_3]; done) | simp [lenOf, c_1_1, c_1_2, c_1_3]) d_M_lengthOf_83
  by_cases c_1_4 : cd = 4
  · refine lv_tableIn (off := 85) (tgt := 86) hx hb d_M_lengthOf_1 (by rw [c_1_4]; decide) (by rw [c_1_4]; decide) (by rw [c_1_4] <;> rfl) (by decide) ?_
    refine lv_iconst (v := 1) hx hb d_M_lengthOf_86 (by decide) ?_
    rw [hQ]; exact retRi hx hb hr hlocks (by first | (simp only [lenOf, if_neg c_1_1, if_neg c_1_2, if_neg c_1_3, if_pos c_1_4]; done) | simp [lenOf, c_1_1, c_1_2, c_1_3, c_1_4]) d_M_lengthOf_87
  by_cases c_1_5 : cd = 5
  · refine lv_tableIn (off := 85) (tgt := 86) hx hb d_M_lengthOf_1 (by rw [c_1_5]; decide) (by rw [c_1_5]; decide) (by rw [c_1_5] <;> rfl) (by decide) ?_
    refine lv_iconst (v := 1) hx hb d_M_lengthOf_86 (by decide) ?_
    rw [hQ]; exact retRi hx hb hr hlocks (by first | (simp only [lenOf, if_neg c_1_1, if_neg c_1_2, if_neg c_1_3, if_neg c_1_4, if_pos c_1_5]; done) | simp [lenOf, c_1_1, c_1_2, c_1_3, c_1_4, c_1_5]) d_M_lengthOf_87
  by_cases c_1_6 : cd = 6
  · refine lv_tableIn (off := 85) (tgt := 86) hx hb d_M_lengthOf_1 (by rw [c_1_6]; decide) (by rw [c_1_6]; decide) (by rw [c_1_6] <;> rfl) (by decide) ?_
    refine lv_iconst (v := 1) hx hb d_M_lengthOf_86 (by decide) ?_
    rw [hQ]; exact retRi hx hb hr hlocks (by first | (simp only [lenOf, if_neg c_1_1, if_neg c_1_2, if_neg c_1_3, if_neg c_1_4, if_neg c_1_5, if_pos c_1_6]; done) | simp [lenOf, c_1_1, c_1_2, c_1_3, c_1_4, c_1_5, c_1_6]) d_M_lengthOf_87
  by_cases c_1_7 : cd = 7
  · refine lv_tableIn (off := 85) (tgt := 86) hx hb d_M_lengthOf_1 (by rw [c_1_7]; decide) (by rw [c_1_7]; decide) (by rw [c_1_7] <;> rfl) (by decide) ?_
    refine lv_iconst (v := 1) hx hb d_M_lengthOf_86 (by decide) ?_
    rw [hQ]; exact retRi hx hb hr hlocks (by first | (simp only [lenOf, if_neg c_1_1, if_neg c_1_2, if_neg c_1_3, if_neg c_1_4, if_neg c_1_5, if_neg c_1_6, if_pos c_1_7]; done) | simp [lenOf, c_1_1, c_1_2, c_1_3, c_1_4, c_1_5, c_1_6, c_1_7]) d_M_lengthOf_87
  by_cases c_1_8 : cd = 8
  · refine lv_tableIn (off := 85) (tgt := 86) hx hb d_M_lengthOf_1 (by rw [c_1_8]; decide) (by rw [c_1_8]; decide) (by rw [c_1_8] <;> rfl) (by decide) ?_
    refine lv_iconst (v := 1) hx hb d_M_lengthOf_86 (by decide) ?_
    rw [hQ]; exact retRi hx hb hr hlocks (by first | (simp only [lenOf, if_neg c_1_1, if_neg c_1_2, if_neg c_1_3, if_neg c_1_4, if_neg c_1_5, if_neg c_1_6, if_neg c_1_7, if_pos c_1_8]; done) | simp [lenOf, c_1_1, c_1_2, c_1_3, c_1_4, c_1_5, c_1_6, c_1_7, c_1_8]) d_M_lengthOf_87
  by_cases c_1_9 : cd = 9
  · refine lv_tableIn (off := 83) (tgt := 84) hx hb d_M_lengthOf_1 (by rw [c_1_9]; decide) (by rw [c_1_9]; decide) (by rw [c_1_9] <;> rfl) (by decide) ?_
    refine lv_iconst (v := 3) hx hb d_M_lengthOf_84 (by decide) ?_
    rw [hQ]; exact retRi hx hb hr hlocks (by first | (simp only [lenOf, if_neg c_1_1, if_neg c_1_2, if_neg c_1_3, if_neg c_1_4, if_neg c_1_5, if_neg c_1_6, if_neg c_1_7, if_neg c_1_8, if_pos c_1_9]; done) | simp [lenOf, c_1_1, c_1_2, c_1_3, c_1_4, c_1_5, c_1_6, c_1_7, c_1_8, c_1_9]) d_M_lengthOf_85
  by_cases c_1_10 : cd = 10
  · refine lv_tableIn (off := 85) (tgt := 86) hx hb d_M_lengthOf_1 (by rw [c_1_10]; decide) (by rw [c_1_10]; decide) (by rw [c_1_10] <;> rfl) (by decide) ?_
    refine lv_iconst (v := 1) hx hb d_M_lengthOf_86 (by decide) ?_
    rw [hQ]; exact retRi hx hb hr hlocks (by first | (simp only [lenOf, if_neg c_1_1, if_neg c_1_2, if_neg c_1_3, if_neg c_1_4, if_neg c_1_5, if_neg c_1_6, if_neg c_1_7, if_neg c_1_8, if_neg c_1_9, if_pos c_1_10]; done) | simp [lenOf, c_1_1, c_1_2, c_1_3, c_1_4, c_1_5, c_1_6, c_1_7, c_1_8, c_1_9, c_1_10]) d_M_lengthOf_87
  by_cases c_1_11 : cd = 11
  · refine lv_tableIn (off := 87) (tgt := 88) hx hb d_M_lengthOf_1 (by rw [c_1_11]; decide) (by rw [c_1_11]; decide) (by rw [c_1_11] <;> rfl) (by decide) ?_
    refine lv_iconst (v := 0) hx hb d_M_lengthOf_88 (by decide) ?_
    rw [hQ]; exact retRi hx hb hr hlocks (by first | (simp only [lenOf, if_neg c_1_1, if_neg c_1_2, if_neg c_1_3, if_neg c_1_4, if_neg c_1_5, if_neg c_1_6, if_neg c_1_7, if_neg c_1_8, if_neg c_1_9, if_neg c_1_10, if_pos c_1_11]; done) | simp [lenOf, c_1_1, c_1_2, c_1_3, c_1_4, c_1_5, c_1_6, c_1_7, c_1_8, c_1_9, c_1_10, c_1_11]) d_M_lengthOf_89
  by_cases c_1_12 : cd = 12
  · refine lv_tableIn (off := 87) (tgt := 88) hx hb d_M_lengthOf_1 (by rw [c_1_12]; decide) (by rw [c_1_12]; decide) (by rw [c_1_12] <;> rfl) (by decide) ?_
    refine lv_iconst (v := 0) hx hb d_M_lengthOf_88 (by decide) ?_
    rw [hQ]; exact retRi hx hb hr hlocks (by first | (simp only [lenOf, if_neg c_1_1, if_neg c_1_2, if_neg c_1_3, if_neg c_1_4, if_neg c_1_5, if_neg c_1_6, if_neg c_1_7, if_neg c_1_8, if_neg c_1_9, if_neg c_1_10, if_neg c_1_11, if_pos c_1_12]; done) | simp [lenOf, c_1_1, c_1_2, c_1_3, c_1_4, c_1_5, c_1_6, c_1_7, c_1_8, c_1_9, c_1_10, c_1_11, c_1_12]) d_M_lengthOf_89
  by_cases c_1_13 : cd = 13
  · refine lv_tableIn (off := 87) (tgt := 88) hx hb d_M_lengthOf_1 (by rw [c_1_13]; decide) (by rw [c_1_13]; decide) (by rw [c_1_13] <;> rfl) (by decide) ?_
    refine lv_iconst (v := 0) hx hb d_M_lengthOf_88 (by decide) ?_
    rw [hQ]; exact retRi hx hb hr hlocks (by first | (simp only [lenOf, if_neg c_1_1, if_neg c_1_2, if_neg c_1_3, if_neg c_1_4, if_neg c_1_5, if_neg c_1_6, if_neg c_1_7, if_neg c_1_8, if_neg c_1_9, if_neg c_1_10, if_neg c_1_11, if_neg c_1_12, if_pos c_1_13]; done) | simp [lenOf, c_1_1, c_1_2, c_1_3, c_1_4, c_1_5, c_1_6, c_1_7, c_1_8, c_1_9, c_1_10, c_1_11, c_1_12, c_1_13]) d_M_lengthOf_89
  by_cases c_1_14 : cd = 14
  · refine lv_tableIn (off := 87) (tgt := 88) hx hb d_M_lengthOf_1 (by rw [c_1_14]; decide) (by rw [c_1_14]; decide) (by rw [c_1_14] <;> rfl) (by decide) ?_
    refine lv_iconst (v := 0) hx hb d_M_lengthOf_88 (by decide) ?_
    rw [hQ]; exact retRi hx hb hr hlocks (by first | (simp only [lenOf, if_neg c_1_1, if_neg c_1_2, if_neg c_1_3, if_neg c_1_4, if_neg c_1_5, if_neg c_1_6, if_neg c_1_7, if_neg c_1_8, if_neg c_1_9, if_neg c_1_10, if_neg c_1_11, if_neg c_1_12, if_neg c_1_13, if_pos c_1_14]; done) | simp [lenOf, c_1_1, c_1_2, c_1_3, c_1_4, c_1_5, c_1_6, c_1_7, c_1_8, c_1_9, c_1_10, c_1_11, c_1_12, c_1_13, c_1_14]) d_M_lengthOf_89
  by_cases c_1_15 : cd = 15
  · refine lv_tableIn (off := 87) (tgt := 88) hx hb d_M_lengthOf_1 (by rw [c_1_15]; decide) (by rw [c_1_15]; decide) (by rw [c_1_15] <;> rfl) (by decide) ?_
    refine lv_iconst (v := 0) hx hb d_M_lengthOf_88 (by decide) ?_
    rw [hQ]; exact retRi hx hb hr hlocks (by first | (simp only [lenOf, if_neg c_1_1, if_neg c_1_2, if_neg c_1_3, if_neg c_1_4, if_neg c_1_5, if_neg c_1_6, if_neg c_1_7, if_neg c_1_8, if_neg c_1_9, if_neg c_1_10, if_neg c_1_11, if_neg c_1_12, if_neg c_1_13, if_neg c_1_14, if_pos c_1_15]; done) | simp [lenOf, c_1_1, c_1_2, c_1_3, c_1_4, c_1_5, c_1_6, c_1_7, c_1_8, c_1_9, c_1_10, c_1_11, c_1_12, c_1_13, c_1_14, c_1_15]) d_M_lengthOf_89
  by_cases c_1_16 : cd = 16
  · refine lv_tableIn (off := 79) (tgt := 80) hx hb d_M_lengthOf_1 (by rw [c_1_16]; decide) (by rw [c_1_16]; decide) (by rw [c_1_16] <;> rfl) (by decide) ?_
    refine lv_iconst (v := 2) hx hb d_M_lengthOf_80 (by decide) ?_
    rw [hQ]; exact retRi hx hb hr hlocks (by first | (simp only [lenOf, if_neg c_1_1, if_neg c_1_2, if_neg c_1_3, if_neg c_1_4, if_neg c_1_5, if_neg c_1_6, if_neg c_1_7, if_neg c_1_8, if_neg c_1_9, if_neg c_1_10, if_neg c_1_11, if_neg c_1_12, if_neg c_1_13, if_neg c_1_14, if_neg c_1_15, if_pos c_1_16]; done) | simp [lenOf, c_1_1, c_1_2, c_1_3, c_1_4, c_1_5, c_1_6, c_1_7, c_1_8, c_1_9, c_1_10, c_1_11, c_1_12, c_1_13, c_1_14, c_1_15, c_1_16]) d_M_lengthOf_81
  refine lv_tableOut (tgt := 88) hx hb d_M_lengthOf_1 (by have := lv_neT c_1_1 (show (1 : Int32).toInt = 1 by decide); have := lv_neT c_1_2 (show (2 : Int32).toInt = 2 by decide); have := lv_neT c_1_3 (show (3 : Int32).toInt = 3 by decide); have := lv_neT c_1_4 (show (4 : Int32).toInt = 4 by decide); have := lv_neT c_1_5 (show (5 : Int32).toInt = 5 by decide); have := lv_neT c_1_6 (show (6 : Int32).toInt = 6 by decide); have := lv_neT c_1_7 (show (7 : Int32).toInt = 7 by decide); have := lv_neT c_1_8 (show (8 : Int32).toInt = 8 by decide); have := lv_neT c_1_9 (show (9 : Int32).toInt = 9 by decide); have := lv_neT c_1_10 (show (10 : Int32).toInt = 10 by decide); have := lv_neT c_1_11 (show (11 : Int32).toInt = 11 by decide); have := lv_neT c_1_12 (show (12 : Int32).toInt = 12 by decide); have := lv_neT c_1_13 (show (13 : Int32).toInt = 13 by decide); have := lv_neT c_1_14 (show (14 : Int32).toInt = 14 by decide); have := lv_neT c_1_15 (show (15 : Int32).toInt = 15 by decide); have := lv_neT c_1_16 (show (16 : Int32).toInt = 16 by decide); omega) (by decide) ?_
  refine lv_iconst (v := 0) hx hb d_M_lengthOf_88 (by decide) ?_
  rw [hQ]; exact retRi hx hb hr hlocks (by first | (simp only [lenOf, if_neg c_1_1, if_neg c_1_2, if_neg c_1_3, if_neg c_1_4, if_neg c_1_5, if_neg c_1_6, if_neg c_1_7, if_neg c_1_8, if_neg c_1_9, if_neg c_1_10, if_neg c_1_11, if_neg c_1_12, if_neg c_1_13, if_neg c_1_14, if_neg c_1_15, if_neg c_1_16]; done) | simp [lenOf, c_1_1, c_1_2, c_1_3, c_1_4, c_1_5, c_1_6, c_1_7, c_1_8, c_1_9, c_1_10, c_1_11, c_1_12, c_1_13, c_1_14, c_1_15, c_1_16]) d_M_lengthOf_89

abbrev w_B_fitsOneByte : List Cond := .code y_B_fitsOneByte b_B_fitsOneByte 1 (some .boolean) :: BIG
set_option maxHeartbeats 4000000 in
set_option maxRecDepth 100000 in
theorem c_B_fitsOneByte (l : Launch) (D : va_G) (cI cL cO : ClassId) (n : Int32) : CRi l y_B_fitsOneByte w_B_fitsOneByte ({ frames := 0, cells := 0, slots := 0, locals := 0 }) D cI cL cO [.int n] ([]) (fitsB n) := by
  refine ofR (cc := b_B_fitsOneByte) (maxL := 1) (ret := (some .boolean)) (by decide) rfl (Nat.le_of_ble_eq_true rfl) ?_
  intro p e s m below meth c ls Q hQ hx hb hr hlocks hts hown hml hP hK hl
  have hl : lv_has ls 1 [(0, .int n)] := hl
  have hown : s.vm.findClass R_B = some m.cls := hown
  have ht : ∀ w ∈ BIG, w.before _ s = true := fun w h => hts w (List.mem_cons_of_mem _ h)
  refine lv_iload_n hx hb d_B_fitsOneByte_0 rfl (lv_at hl 0 rfl) ?_
  refine lv_bipush (v := (-128)) hx hb d_B_fitsOneByte_1 (by decide) ?_
  refine lv_icmp_lt (tgt := 16) hx hb d_B_fitsOneByte_3 (by decide) (fun c_3 => ?_) (fun c_3 => ?_)
  · refine lv_iconst (v := 0) hx hb d_B_fitsOneByte_16 (by decide) ?_
    rw [hQ]; exact retRz hx hb hr hlocks rfl (by first | (simp only [fitsB, if_pos c_3]; done) | simp [fitsB, c_3]) d_B_fitsOneByte_17
  · refine lv_iload_n hx hb d_B_fitsOneByte_6 rfl (lv_at hl 0 rfl) ?_
    refine lv_bipush (v := 127) hx hb d_B_fitsOneByte_7 (by decide) ?_
    refine lv_icmp_gt (tgt := 16) hx hb d_B_fitsOneByte_9 (by decide) (fun c_9 => ?_) (fun c_9 => ?_)
    · refine lv_iconst (v := 0) hx hb d_B_fitsOneByte_16 (by decide) ?_
      rw [hQ]; exact retRz hx hb hr hlocks rfl (by first | (simp only [fitsB, if_neg c_3, if_pos c_9]; done) | simp [fitsB, c_3, c_9]) d_B_fitsOneByte_17
    · refine lv_iconst (v := 1) hx hb d_B_fitsOneByte_12 (by decide) ?_
      refine lv_goto (tgt := 17) hx hb d_B_fitsOneByte_13 (by decide) ?_
      rw [hQ]; exact retRz hx hb hr hlocks rfl (by first | (simp only [fitsB, if_neg c_3, if_neg c_9]; done) | simp [fitsB, c_3, c_9]) d_B_fitsOneByte_17

abbrev w_B_bytesFor : List Cond := .code y_B_bytesFor b_B_bytesFor 2 (some .int) :: BIG
set_option maxHeartbeats 4000000 in
set_option maxRecDepth 100000 in
theorem c_B_bytesFor (l : Launch) (D : va_G) (cI cL cO : ClassId) (op : Int32) (b : Int32) : CRi l y_B_bytesFor w_B_bytesFor ({ frames := 1, cells := 0, slots := 0, locals := 20 }) D cI cL cO [.int op, .int b] ([]) (bytesF op b) := by
  refine ofR (cc := b_B_bytesFor) (maxL := 2) (ret := (some .int)) (by decide) rfl (Nat.le_of_ble_eq_true rfl) ?_
  intro p e s m below meth c ls Q hQ hx hb hr hlocks hts hown hml hP hK hl
  have hl : lv_has ls 2 [(0, .int op), (1, .int b)] := hl
  have hown : s.vm.findClass R_B = some m.cls := hown
  have ht : ∀ w ∈ BIG, w.before _ s = true := fun w h => hts w (List.mem_cons_of_mem _ h)
  refine lv_iload_n hx hb d_B_bytesFor_0 rfl (lv_at hl 0 rfl) ?_
  by_cases c_1_0 : op = 0
  · refine lv_lookup (off := 35) (tgt := 36) hx hb d_B_bytesFor_1 (by decide) (by rw [c_1_0] <;> rfl) (by decide) ?_
    refine lv_iload_n hx hb d_B_bytesFor_36 rfl (lv_at hl 1 rfl) ?_
    refine goRi (va_runS (As := [.int b]) (rest := []) ⟨hx, hb, hml, hown, hts⟩ (c_B_fitsOneByte l D cI cL cO b) (cwS 1 hts (gBIG (m3 k_ml_B_69 k_st_B_fitsOneByte k_ini_B) k_co_B_fitsOneByte) rfl rfl rfl (by decide +kernel) ⟨Nat.le_of_ble_eq_true rfl, Nat.le_of_ble_eq_true rfl⟩) ⟨PR.bl, PR.pre P_nil hK⟩ rfl rfl hl.1 rfl (lv_room (Nat.le_of_ble_eq_true rfl)) d_B_bytesFor_37 ⟨Nat.le_of_ble_eq_true rfl, Nat.le_of_ble_eq_true rfl⟩) ?_
    refine lv_if_eq (tgt := 48) hx hb d_B_bytesFor_40 (by decide) (fun c_40 => ?_) (fun c_40 => ?_)
    · refine lv_iconst (v := 3) hx hb d_B_bytesFor_48 (by decide) ?_
      refine goRi (va_runSN (As := [.int 3]) (rest := []) ⟨hx, hb, hml, hown, hts⟩ (c_M_lengthOf l D cI cL cO 3) ⟨va_cnB 1 hts (gB0 k_co_M_lengthOf) rfl rfl rfl (hK.2 _ n_ml_B_48) (ht _ k_ini_M) (by decide +kernel) ⟨Nat.le_of_ble_eq_true rfl, Nat.le_of_ble_eq_true rfl⟩, ht _ k_st_M_lengthOf, trivial⟩ ⟨PR.bl, PR.pre P_nil hK⟩ rfl rfl hl.1 rfl (lv_room (Nat.le_of_ble_eq_true rfl)) d_B_bytesFor_49 ⟨Nat.le_of_ble_eq_true rfl, Nat.le_of_ble_eq_true rfl⟩) ?_
      refine lv_iconst (v := 2) hx hb d_B_bytesFor_52 (by decide) ?_
      refine goRi (va_runSN (As := [.int 2]) (rest := [.int (lenOf 3)]) ⟨hx, hb, hml, hown, hts⟩ (c_M_lengthOf l D cI cL cO 2) ⟨va_cnB 1 hts (gB0 k_co_M_lengthOf) rfl rfl rfl (hK.2 _ n_ml_B_48) (ht _ k_ini_M) (by decide +kernel) ⟨Nat.le_of_ble_eq_true rfl, Nat.le_of_ble_eq_true rfl⟩, ht _ k_st_M_lengthOf, trivial⟩ ⟨PR.bl, PR.pre P_nil hK⟩ rfl rfl hl.1 rfl (lv_room (Nat.le_of_ble_eq_true rfl)) d_B_bytesFor_53 ⟨Nat.le_of_ble_eq_true rfl, Nat.le_of_ble_eq_true rfl⟩) ?_
      refine lv_iadd hx hb d_B_bytesFor_56 ?_
      rw [hQ]; exact retRi hx hb hr hlocks (by first | (simp only [bytesF, if_pos c_1_0, if_pos c_40]; done) | simp [bytesF, c_1_0, c_40]) d_B_bytesFor_57
    · refine lv_bipush (v := 16) hx hb d_B_bytesFor_43 (by decide) ?_
      refine lv_goto (tgt := 49) hx hb d_B_bytesFor_45 (by decide) ?_
      refine goRi (va_runSN (As := [.int 16]) (rest := []) ⟨hx, hb, hml, hown, hts⟩ (c_M_lengthOf l D cI cL cO 16) ⟨va_cnB 1 hts (gB0 k_co_M_lengthOf) rfl rfl rfl (hK.2 _ n_ml_B_48) (ht _ k_ini_M) (by decide +kernel) ⟨Nat.le_of_ble_eq_true rfl, Nat.le_of_ble_eq_true rfl⟩, ht _ k_st_M_lengthOf, trivial⟩ ⟨PR.bl, PR.pre P_nil hK⟩ rfl rfl hl.1 rfl (lv_room (Nat.le_of_ble_eq_true rfl)) d_B_bytesFor_49 ⟨Nat.le_of_ble_eq_true rfl, Nat.le_of_ble_eq_true rfl⟩) ?_
      refine lv_iconst (v := 2) hx hb d_B_bytesFor_52 (by decide) ?_
      refine goRi (va_runSN (As := [.int 2]) (rest := [.int (lenOf 16)]) ⟨hx, hb, hml, hown, hts⟩ (c_M_lengthOf l D cI cL cO 2) ⟨va_cnB 1 hts (gB0 k_co_M_lengthOf) rfl rfl rfl (hK.2 _ n_ml_B_48) (ht _ k_ini_M) (by decide +kernel) ⟨Nat.le_of_ble_eq_true rfl, Nat.le_of_ble_eq_true rfl⟩, ht _ k_st_M_lengthOf, trivial⟩ ⟨PR.bl, PR.pre P_nil hK⟩ rfl rfl hl.1 rfl (lv_room (Nat.le_of_ble_eq_true rfl)) d_B_bytesFor_53 ⟨Nat.le_of_ble_eq_true rfl, Nat.le_of_ble_eq_true rfl⟩) ?_
      refine lv_iadd hx hb d_B_bytesFor_56 ?_
      rw [hQ]; exact retRi hx hb hr hlocks (by first | (simp only [bytesF, if_pos c_1_0, if_neg c_40]; done) | simp [bytesF, c_1_0, c_40]) d_B_bytesFor_57
  by_cases c_1_6 : op = 6
  · refine lv_lookup (off := 57) (tgt := 58) hx hb d_B_bytesFor_1 (by decide) (by rw [c_1_6] <;> rfl) (by decide) ?_
    refine lv_iconst (v := 1) hx hb d_B_bytesFor_58 (by decide) ?_
    refine goRi (va_runSN (As := [.int 1]) (rest := []) ⟨hx, hb, hml, hown, hts⟩ (c_M_lengthOf l D cI cL cO 1) ⟨va_cnB 1 hts (gB0 k_co_M_lengthOf) rfl rfl rfl (hK.2 _ n_ml_B_48) (ht _ k_ini_M) (by decide +kernel) ⟨Nat.le_of_ble_eq_true rfl, Nat.le_of_ble_eq_true rfl⟩, ht _ k_st_M_lengthOf, trivial⟩ ⟨PR.bl, PR.pre P_nil hK⟩ rfl rfl hl.1 rfl (lv_room (Nat.le_of_ble_eq_true rfl)) d_B_bytesFor_59 ⟨Nat.le_of_ble_eq_true rfl, Nat.le_of_ble_eq_true rfl⟩) ?_
    refine lv_bipush (v := 9) hx hb d_B_bytesFor_62 (by decide) ?_
    refine goRi (va_runSN (As := [.int 9]) (rest := [.int (lenOf 1)]) ⟨hx, hb, hml, hown, hts⟩ (c_M_lengthOf l D cI cL cO 9) ⟨va_cnB 1 hts (gB0 k_co_M_lengthOf) rfl rfl rfl (hK.2 _ n_ml_B_48) (ht _ k_ini_M) (by decide +kernel) ⟨Nat.le_of_ble_eq_true rfl, Nat.le_of_ble_eq_true rfl⟩, ht _ k_st_M_lengthOf, trivial⟩ ⟨PR.bl, PR.pre P_nil hK⟩ rfl rfl hl.1 rfl (lv_room (Nat.le_of_ble_eq_true rfl)) d_B_bytesFor_64 ⟨Nat.le_of_ble_eq_true rfl, Nat.le_of_ble_eq_true rfl⟩) ?_
    refine lv_iadd hx hb d_B_bytesFor_67 ?_
    rw [hQ]; exact retRi hx hb hr hlocks (by first | (simp only [bytesF, if_neg c_1_0, if_pos c_1_6]; done) | simp [bytesF, c_1_0, c_1_6]) d_B_bytesFor_68
  by_cases c_1_7 : op = 7
  · refine lv_lookup (off := 68) (tgt := 69) hx hb d_B_bytesFor_1 (by decide) (by rw [c_1_7] <;> rfl) (by decide) ?_
    refine lv_iconst (v := 1) hx hb d_B_bytesFor_69 (by decide) ?_
    refine goRi (va_runSN (As := [.int 1]) (rest := []) ⟨hx, hb, hml, hown, hts⟩ (c_M_lengthOf l D cI cL cO 1) ⟨va_cnB 1 hts (gB0 k_co_M_lengthOf) rfl rfl rfl (hK.2 _ n_ml_B_48) (ht _ k_ini_M) (by decide +kernel) ⟨Nat.le_of_ble_eq_true rfl, Nat.le_of_ble_eq_true rfl⟩, ht _ k_st_M_lengthOf, trivial⟩ ⟨PR.bl, PR.pre P_nil hK⟩ rfl rfl hl.1 rfl (lv_room (Nat.le_of_ble_eq_true rfl)) d_B_bytesFor_70 ⟨Nat.le_of_ble_eq_true rfl, Nat.le_of_ble_eq_true rfl⟩) ?_
    refine lv_iconst (v := 2) hx hb d_B_bytesFor_73 (by decide) ?_
    refine goRi (va_runSN (As := [.int 2]) (rest := [.int (lenOf 1)]) ⟨hx, hb, hml, hown, hts⟩ (c_M_lengthOf l D cI cL cO 2) ⟨va_cnB 1 hts (gB0 k_co_M_lengthOf) rfl rfl rfl (hK.2 _ n_ml_B_48) (ht _ k_ini_M) (by decide +kernel) ⟨Nat.le_of_ble_eq_true rfl, Nat.le_of_ble_eq_true rfl⟩, ht _ k_st_M_lengthOf, trivial⟩ ⟨PR.bl, PR.pre P_nil hK⟩ rfl rfl hl.1 rfl (lv_room (Nat.le_of_ble_eq_true rfl)) d_B_bytesFor_74 ⟨Nat.le_of_ble_eq_true rfl, Nat.le_of_ble_eq_true rfl⟩) ?_
    refine lv_iadd hx hb d_B_bytesFor_77 ?_
    rw [hQ]; exact retRi hx hb hr hlocks (by first | (simp only [bytesF, if_neg c_1_0, if_neg c_1_6, if_pos c_1_7]; done) | simp [bytesF, c_1_0, c_1_6, c_1_7]) d_B_bytesFor_78
  refine lv_lookup (off := 78) (tgt := 79) hx hb d_B_bytesFor_1 (by decide) (by rw [lv_osw c_1_0 (by decide), lv_osw c_1_6 (by decide), lv_osw c_1_7 (by decide)] <;> rfl) (by decide) ?_
  refine lv_iconst (v := 2) hx hb d_B_bytesFor_79 (by decide) ?_
  refine lv_iconst (v := 1) hx hb d_B_bytesFor_80 (by decide) ?_
  refine goRi (va_runSN (As := [.int 1]) (rest := [.int 2]) ⟨hx, hb, hml, hown, hts⟩ (c_M_lengthOf l D cI cL cO 1) ⟨va_cnB 1 hts (gB0 k_co_M_lengthOf) rfl rfl rfl (hK.2 _ n_ml_B_48) (ht _ k_ini_M) (by decide +kernel) ⟨Nat.le_of_ble_eq_true rfl, Nat.le_of_ble_eq_true rfl⟩, ht _ k_st_M_lengthOf, trivial⟩ ⟨PR.bl, PR.pre P_nil hK⟩ rfl rfl hl.1 rfl (lv_room (Nat.le_of_ble_eq_true rfl)) d_B_bytesFor_81 ⟨Nat.le_of_ble_eq_true rfl, Nat.le_of_ble_eq_true rfl⟩) ?_
  refine lv_imul hx hb d_B_bytesFor_84 ?_
  refine lv_iload_n hx hb d_B_bytesFor_85 rfl (lv_at hl 0 rfl) ?_
  refine lv_iconst (v := 3) hx hb d_B_bytesFor_86 (by decide) ?_
  refine lv_iadd hx hb d_B_bytesFor_87 ?_
  refine goRi (va_runSN (As := [.int (op + 3)]) (rest := [.int (2 * (lenOf 1))]) ⟨hx, hb, hml, hown, hts⟩ (c_M_lengthOf l D cI cL cO (op + 3)) ⟨va_cnB 1 hts (gB0 k_co_M_lengthOf) rfl rfl rfl (hK.2 _ n_ml_B_48) (ht _ k_ini_M) (by decide +kernel) ⟨Nat.le_of_ble_eq_true rfl, Nat.le_of_ble_eq_true rfl⟩, ht _ k_st_M_lengthOf, trivial⟩ ⟨PR.bl, PR.pre P_nil hK⟩ rfl rfl hl.1 rfl (lv_room (Nat.le_of_ble_eq_true rfl)) d_B_bytesFor_88 ⟨Nat.le_of_ble_eq_true rfl, Nat.le_of_ble_eq_true rfl⟩) ?_
  refine lv_iadd hx hb d_B_bytesFor_91 ?_
  refine lv_iconst (v := 2) hx hb d_B_bytesFor_92 (by decide) ?_
  refine goRi (va_runSN (As := [.int 2]) (rest := [.int ((2 * (lenOf 1)) + (lenOf (op + 3)))]) ⟨hx, hb, hml, hown, hts⟩ (c_M_lengthOf l D cI cL cO 2) ⟨va_cnB 1 hts (gB0 k_co_M_lengthOf) rfl rfl rfl (hK.2 _ n_ml_B_48) (ht _ k_ini_M) (by decide +kernel) ⟨Nat.le_of_ble_eq_true rfl, Nat.le_of_ble_eq_true rfl⟩, ht _ k_st_M_lengthOf, trivial⟩ ⟨PR.bl, PR.pre P_nil hK⟩ rfl rfl hl.1 rfl (lv_room (Nat.le_of_ble_eq_true rfl)) d_B_bytesFor_93 ⟨Nat.le_of_ble_eq_true rfl, Nat.le_of_ble_eq_true rfl⟩) ?_
  refine lv_iadd hx hb d_B_bytesFor_96 ?_
  rw [hQ]; exact retRi hx hb hr hlocks (by first | (simp only [bytesF, if_neg c_1_0, if_neg c_1_6, if_neg c_1_7]; done) | simp [bytesF, c_1_0, c_1_6, c_1_7]) d_B_bytesFor_97

abbrev w_K_takenBy : List Cond := .code y_K_takenBy b_K_takenBy 1 (some .int) :: BIG
set_option maxHeartbeats 4000000 in
set_option maxRecDepth 100000 in
theorem c_K_takenBy (l : Launch) (D : va_G) (cI cL cO : ClassId) (cd : Int32) : CRi l y_K_takenBy w_K_takenBy ({ frames := 0, cells := 0, slots := 0, locals := 0 }) D cI cL cO [.int cd] ([]) (takenF cd) := by
  refine ofR (cc := b_K_takenBy) (maxL := 1) (ret := (some .int)) (by decide) rfl (Nat.le_of_ble_eq_true rfl) ?_
  intro p e s m below meth c ls Q hQ hx hb hr hlocks hts hown hml hP hK hl
  have hl : lv_has ls 1 [(0, .int cd)] := hl
  have hown : s.vm.findClass R_K = some m.cls := hown
  have ht : ∀ w ∈ BIG, w.before _ s = true := fun w h => hts w (List.mem_cons_of_mem _ h)
  refine lv_iload_n hx hb d_K_takenBy_0 rfl (lv_at hl 0 rfl) ?_
  by_cases c_1_2 : cd = 2
  · refine lv_tableIn (off := 47) (tgt := 48) hx hb d_K_takenBy_1 (by rw [c_1_2]; decide) (by rw [c_1_2]; decide) (by rw [c_1_2] <;> rfl) (by decide) ?_
    refine lv_iconst (v := 1) hx hb d_K_takenBy_48 (by decide) ?_
    rw [hQ]; exact retRi hx hb hr hlocks (by first | (simp only [takenF, if_pos c_1_2]; done) | simp [takenF, c_1_2]) d_K_takenBy_49
  by_cases c_1_3 : cd = 3
  · refine lv_tableIn (off := 51) (tgt := 52) hx hb d_K_takenBy_1 (by rw [c_1_3]; decide) (by rw [c_1_3]; decide) (by rw [c_1_3] <;> rfl) (by decide) ?_
    refine lv_iconst (v := 0) hx hb d_K_takenBy_52 (by decide) ?_
    rw [hQ]; exact retRi hx hb hr hlocks (by first | (simp only [takenF, if_neg c_1_2, if_pos c_1_3]; done) | simp [takenF, c_1_2, c_1_3]) d_K_takenBy_53
  by_cases c_1_4 : cd = 4
  · refine lv_tableIn (off := 49) (tgt := 50) hx hb d_K_takenBy_1 (by rw [c_1_4]; decide) (by rw [c_1_4]; decide) (by rw [c_1_4] <;> rfl) (by decide) ?_
    refine lv_iconst (v := 2) hx hb d_K_takenBy_50 (by decide) ?_
    rw [hQ]; exact retRi hx hb hr hlocks (by first | (simp only [takenF, if_neg c_1_2, if_neg c_1_3, if_pos c_1_4]; done) | simp [takenF, c_1_2, c_1_3, c_1_4]) d_K_takenBy_51
  by_cases c_1_5 : cd = 5
  · refine lv_tableIn (off := 49) (tgt := 50) hx hb d_K_takenBy_1 (by rw [c_1_5]; decide) (by rw [c_1_5]; decide) (by rw [c_1_5] <;> rfl) (by decide) ?_
    refine lv_iconst (v := 2) hx hb d_K_takenBy_50 (by decide) ?_
    rw [hQ]; exact retRi hx hb hr hlocks (by first | (simp only [takenF, if_neg c_1_2, if_neg c_1_3, if_neg c_1_4, if_pos c_1_5]; done) | simp [takenF, c_1_2, c_1_3, c_1_4, c_1_5]) d_K_takenBy_51
  by_cases c_1_6 : cd = 6
  · refine lv_tableIn (off := 49) (tgt := 50) hx hb d_K_takenBy_1 (by rw [c_1_6]; decide) (by rw [c_1_6]; decide) (by rw [c_1_6] <;> rfl) (by decide) ?_
    refine lv_iconst (v := 2) hx hb d_K_takenBy_50 (by decide) ?_
    rw [hQ]; exact retRi hx hb hr hlocks (by first | (simp only [takenF, if_neg c_1_2, if_neg c_1_3, if_neg c_1_4, if_neg c_1_5, if_pos c_1_6]; done) | simp [takenF, c_1_2, c_1_3, c_1_4, c_1_5, c_1_6]) d_K_takenBy_51
  by_cases c_1_7 : cd = 7
  · refine lv_tableIn (off := 49) (tgt := 50) hx hb d_K_takenBy_1 (by rw [c_1_7]; decide) (by rw [c_1_7]; decide) (by rw [c_1_7] <;> rfl) (by decide) ?_
    refine lv_iconst (v := 2) hx hb d_K_takenBy_50 (by decide) ?_
    rw [hQ]; exact retRi hx hb hr hlocks (by first | (simp only [takenF, if_neg c_1_2, if_neg c_1_3, if_neg c_1_4, if_neg c_1_5, if_neg c_1_6, if_pos c_1_7]; done) | simp [takenF, c_1_2, c_1_3, c_1_4, c_1_5, c_1_6, c_1_7]) d_K_takenBy_51
  by_cases c_1_8 : cd = 8
  · refine lv_tableIn (off := 49) (tgt := 50) hx hb d_K_takenBy_1 (by rw [c_1_8]; decide) (by rw [c_1_8]; decide) (by rw [c_1_8] <;> rfl) (by decide) ?_
    refine lv_iconst (v := 2) hx hb d_K_takenBy_50 (by decide) ?_
    rw [hQ]; exact retRi hx hb hr hlocks (by first | (simp only [takenF, if_neg c_1_2, if_neg c_1_3, if_neg c_1_4, if_neg c_1_5, if_neg c_1_6, if_neg c_1_7, if_pos c_1_8]; done) | simp [takenF, c_1_2, c_1_3, c_1_4, c_1_5, c_1_6, c_1_7, c_1_8]) d_K_takenBy_51
  by_cases c_1_9 : cd = 9
  · refine lv_tableIn (off := 47) (tgt := 48) hx hb d_K_takenBy_1 (by rw [c_1_9]; decide) (by rw [c_1_9]; decide) (by rw [c_1_9] <;> rfl) (by decide) ?_
    refine lv_iconst (v := 1) hx hb d_K_takenBy_48 (by decide) ?_
    rw [hQ]; exact retRi hx hb hr hlocks (by first | (simp only [takenF, if_neg c_1_2, if_neg c_1_3, if_neg c_1_4, if_neg c_1_5, if_neg c_1_6, if_neg c_1_7, if_neg c_1_8, if_pos c_1_9]; done) | simp [takenF, c_1_2, c_1_3, c_1_4, c_1_5, c_1_6, c_1_7, c_1_8, c_1_9]) d_K_takenBy_49
  refine lv_tableOut (tgt := 52) hx hb d_K_takenBy_1 (by have := lv_neT c_1_2 (show (2 : Int32).toInt = 2 by decide); have := lv_neT c_1_3 (show (3 : Int32).toInt = 3 by decide); have := lv_neT c_1_4 (show (4 : Int32).toInt = 4 by decide); have := lv_neT c_1_5 (show (5 : Int32).toInt = 5 by decide); have := lv_neT c_1_6 (show (6 : Int32).toInt = 6 by decide); have := lv_neT c_1_7 (show (7 : Int32).toInt = 7 by decide); have := lv_neT c_1_8 (show (8 : Int32).toInt = 8 by decide); have := lv_neT c_1_9 (show (9 : Int32).toInt = 9 by decide); omega) (by decide) ?_
  refine lv_iconst (v := 0) hx hb d_K_takenBy_52 (by decide) ?_
  rw [hQ]; exact retRi hx hb hr hlocks (by first | (simp only [takenF, if_neg c_1_2, if_neg c_1_3, if_neg c_1_4, if_neg c_1_5, if_neg c_1_6, if_neg c_1_7, if_neg c_1_8, if_neg c_1_9]; done) | simp [takenF, c_1_2, c_1_3, c_1_4, c_1_5, c_1_6, c_1_7, c_1_8, c_1_9]) d_K_takenBy_53

abbrev w_K_addedBy : List Cond := .code y_K_addedBy b_K_addedBy 1 (some .int) :: BIG
set_option maxHeartbeats 4000000 in
set_option maxRecDepth 100000 in
theorem c_K_addedBy (l : Launch) (D : va_G) (cI cL cO : ClassId) (cd : Int32) : CRi l y_K_addedBy w_K_addedBy ({ frames := 0, cells := 0, slots := 0, locals := 0 }) D cI cL cO [.int cd] ([]) (addedF cd) := by
  refine ofR (cc := b_K_addedBy) (maxL := 1) (ret := (some .int)) (by decide) rfl (Nat.le_of_ble_eq_true rfl) ?_
  intro p e s m below meth c ls Q hQ hx hb hr hlocks hts hown hml hP hK hl
  have hl : lv_has ls 1 [(0, .int cd)] := hl
  have hown : s.vm.findClass R_K = some m.cls := hown
  have ht : ∀ w ∈ BIG, w.before _ s = true := fun w h => hts w (List.mem_cons_of_mem _ h)
  refine lv_iload_n hx hb d_K_addedBy_0 rfl (lv_at hl 0 rfl) ?_
  by_cases c_1_2 : cd = 2
  · refine lv_lookup (off := 35) (tgt := 36) hx hb d_K_addedBy_1 (by decide) (by rw [c_1_2] <;> rfl) (by decide) ?_
    refine lv_iconst (v := 0) hx hb d_K_addedBy_36 (by decide) ?_
    rw [hQ]; exact retRi hx hb hr hlocks (by first | (simp only [addedF, if_pos c_1_2]; done) | simp [addedF, c_1_2]) d_K_addedBy_37
  by_cases c_1_9 : cd = 9
  · refine lv_lookup (off := 35) (tgt := 36) hx hb d_K_addedBy_1 (by decide) (by rw [c_1_9] <;> rfl) (by decide) ?_
    refine lv_iconst (v := 0) hx hb d_K_addedBy_36 (by decide) ?_
    rw [hQ]; exact retRi hx hb hr hlocks (by first | (simp only [addedF, if_neg c_1_2, if_pos c_1_9]; done) | simp [addedF, c_1_2, c_1_9]) d_K_addedBy_37
  by_cases c_1_10 : cd = 10
  · refine lv_lookup (off := 35) (tgt := 36) hx hb d_K_addedBy_1 (by decide) (by rw [c_1_10] <;> rfl) (by decide) ?_
    refine lv_iconst (v := 0) hx hb d_K_addedBy_36 (by decide) ?_
    rw [hQ]; exact retRi hx hb hr hlocks (by first | (simp only [addedF, if_neg c_1_2, if_neg c_1_9, if_pos c_1_10]; done) | simp [addedF, c_1_2, c_1_9, c_1_10]) d_K_addedBy_37
  refine lv_lookup (off := 37) (tgt := 38) hx hb d_K_addedBy_1 (by decide) (by rw [lv_osw c_1_2 (by decide), lv_osw c_1_9 (by decide), lv_osw c_1_10 (by decide)] <;> rfl) (by decide) ?_
  refine lv_iconst (v := 1) hx hb d_K_addedBy_38 (by decide) ?_
  rw [hQ]; exact retRi hx hb hr hlocks (by first | (simp only [addedF, if_neg c_1_2, if_neg c_1_9, if_neg c_1_10]; done) | simp [addedF, c_1_2, c_1_9, c_1_10]) d_K_addedBy_39

abbrev w_K_wrongAt : List Cond := .code y_K_wrongAt b_K_wrongAt 1 (some .int) :: BIG
set_option maxHeartbeats 4000000 in
set_option maxRecDepth 100000 in
theorem c_K_wrongAt (l : Launch) (D : va_G) (cI cL cO : ClassId) (at1 : Int32) : CRi l y_K_wrongAt w_K_wrongAt ({ frames := 0, cells := 0, slots := 0, locals := 0 }) D cI cL cO [.int at1] ([]) (1 + at1) := by
  refine ofR (cc := b_K_wrongAt) (maxL := 1) (ret := (some .int)) (by decide) rfl (Nat.le_of_ble_eq_true rfl) ?_
  intro p e s m below meth c ls Q hQ hx hb hr hlocks hts hown hml hP hK hl
  have hl : lv_has ls 1 [(0, .int at1)] := hl
  have hown : s.vm.findClass R_K = some m.cls := hown
  have ht : ∀ w ∈ BIG, w.before _ s = true := fun w h => hts w (List.mem_cons_of_mem _ h)
  refine lv_iconst (v := 1) hx hb d_K_wrongAt_0 (by decide) ?_
  refine lv_iload_n hx hb d_K_wrongAt_1 rfl (lv_at hl 0 rfl) ?_
  refine lv_iadd hx hb d_K_wrongAt_2 ?_
  rw [hQ]; exact retRi hx hb hr hlocks (by first | (simp only []; done) | simp []) d_K_wrongAt_3

abbrev w_U_worked : List Cond := .code y_U_worked b_U_worked 5 (some .long) :: BIG
set_option maxHeartbeats 4000000 in
set_option maxRecDepth 100000 in
theorem c_U_worked (l : Launch) (D : va_G) (cI cL cO : ClassId) (op : Int32) (x : Int64) (y : Int64) : CRl l y_U_worked w_U_worked ({ frames := 0, cells := 0, slots := 0, locals := 0 }) D cI cL cO [.int op, .long x, .long y] ([]) (workedF op x y) := by
  refine ofR (cc := b_U_worked) (maxL := 5) (ret := (some .long)) (by decide) rfl (Nat.le_of_ble_eq_true rfl) ?_
  intro p e s m below meth c ls Q hQ hx hb hr hlocks hts hown hml hP hK hl
  have hl : lv_has ls 5 [(0, .int op), (1, .long x), (3, .long y)] := hl
  have hown : s.vm.findClass R_U = some m.cls := hown
  have ht : ∀ w ∈ BIG, w.before _ s = true := fun w h => hts w (List.mem_cons_of_mem _ h)
  refine lv_iload_n hx hb d_U_worked_0 rfl (lv_at hl 0 rfl) ?_
  by_cases c_1_1 : op = 1
  · refine lv_tableIn (off := 35) (tgt := 36) hx hb d_U_worked_1 (by rw [c_1_1]; decide) (by rw [c_1_1]; decide) (by rw [c_1_1] <;> rfl) (by decide) ?_
    refine lv_lload_n hx hb d_U_worked_36 rfl (lv_at hl 1 rfl) ?_
    refine lv_lload_n hx hb d_U_worked_37 rfl (lv_at hl 2 rfl) ?_
    refine lv_ladd hx hb d_U_worked_38 ?_
    rw [hQ]; exact retRl hx hb hr hlocks (by first | (simp only [workedF, if_pos c_1_1]; done) | simp [workedF, c_1_1]) d_U_worked_39
  by_cases c_1_2 : op = 2
  · refine lv_tableIn (off := 39) (tgt := 40) hx hb d_U_worked_1 (by rw [c_1_2]; decide) (by rw [c_1_2]; decide) (by rw [c_1_2] <;> rfl) (by decide) ?_
    refine lv_lload_n hx hb d_U_worked_40 rfl (lv_at hl 1 rfl) ?_
    refine lv_lload_n hx hb d_U_worked_41 rfl (lv_at hl 2 rfl) ?_
    refine lv_lsub hx hb d_U_worked_42 ?_
    rw [hQ]; exact retRl hx hb hr hlocks (by first | (simp only [workedF, if_neg c_1_1, if_pos c_1_2]; done) | simp [workedF, c_1_1, c_1_2]) d_U_worked_43
  by_cases c_1_3 : op = 3
  · refine lv_tableIn (off := 43) (tgt := 44) hx hb d_U_worked_1 (by rw [c_1_3]; decide) (by rw [c_1_3]; decide) (by rw [c_1_3] <;> rfl) (by decide) ?_
    refine lv_lload_n hx hb d_U_worked_44 rfl (lv_at hl 1 rfl) ?_
    refine lv_lload_n hx hb d_U_worked_45 rfl (lv_at hl 2 rfl) ?_
    refine lv_lmul hx hb d_U_worked_46 ?_
    rw [hQ]; exact retRl hx hb hr hlocks (by first | (simp only [workedF, if_neg c_1_1, if_neg c_1_2, if_pos c_1_3]; done) | simp [workedF, c_1_1, c_1_2, c_1_3]) d_U_worked_47
  by_cases c_1_4 : op = 4
  · refine lv_tableIn (off := 47) (tgt := 48) hx hb d_U_worked_1 (by rw [c_1_4]; decide) (by rw [c_1_4]; decide) (by rw [c_1_4] <;> rfl) (by decide) ?_
    refine lv_lload_n hx hb d_U_worked_48 rfl (lv_at hl 2 rfl) ?_
    refine lv_lconst (v := 0) hx hb d_U_worked_49 (by decide) ?_
    refine W.lcmp hx hb d_U_worked_50 ?_
    refine lv_if_ne (tgt := 58) hx hb d_U_worked_51 (by decide) (fun c_51 => ?_) (fun c_51 => ?_)
    · refine lv_lload_n hx hb d_U_worked_58 rfl (lv_at hl 1 rfl) ?_
      refine lv_lload_n hx hb d_U_worked_59 rfl (lv_at hl 2 rfl) ?_
      refine lv_ldiv hx hb d_U_worked_60 (fun h => c_51 ((lg_cmp_eq _ _).mpr h)) ?_
      rw [hQ]; exact retRl hx hb hr hlocks (by first | (simp only [workedF, if_neg c_1_1, if_neg c_1_2, if_neg c_1_3, if_pos c_1_4, if_neg c_51]; done) | simp [workedF, c_1_1, c_1_2, c_1_3, c_1_4, c_51]) d_U_worked_61
    · refine lv_lconst (v := 0) hx hb d_U_worked_54 (by decide) ?_
      refine lv_goto (tgt := 61) hx hb d_U_worked_55 (by decide) ?_
      rw [hQ]; exact retRl hx hb hr hlocks (by first | (simp only [workedF, if_neg c_1_1, if_neg c_1_2, if_neg c_1_3, if_pos c_1_4, if_pos c_51]; done) | simp [workedF, c_1_1, c_1_2, c_1_3, c_1_4, c_51]) d_U_worked_61
  by_cases c_1_5 : op = 5
  · refine lv_tableIn (off := 61) (tgt := 62) hx hb d_U_worked_1 (by rw [c_1_5]; decide) (by rw [c_1_5]; decide) (by rw [c_1_5] <;> rfl) (by decide) ?_
    refine lv_lload_n hx hb d_U_worked_62 rfl (lv_at hl 1 rfl) ?_
    refine lv_lload_n hx hb d_U_worked_63 rfl (lv_at hl 2 rfl) ?_
    refine W.lcmp hx hb d_U_worked_64 ?_
    refine lv_if_ge (tgt := 72) hx hb d_U_worked_65 (by decide) (fun c_65 => ?_) (fun c_65 => ?_)
    · refine lv_lconst (v := 0) hx hb d_U_worked_72 (by decide) ?_
      rw [hQ]; exact retRl hx hb hr hlocks (by first | (simp only [workedF, if_neg c_1_1, if_neg c_1_2, if_neg c_1_3, if_neg c_1_4, if_pos c_1_5, if_pos c_65]; done) | simp [workedF, c_1_1, c_1_2, c_1_3, c_1_4, c_1_5, c_65]) d_U_worked_73
    · refine lv_lconst (v := 1) hx hb d_U_worked_68 (by decide) ?_
      refine lv_goto (tgt := 73) hx hb d_U_worked_69 (by decide) ?_
      rw [hQ]; exact retRl hx hb hr hlocks (by first | (simp only [workedF, if_neg c_1_1, if_neg c_1_2, if_neg c_1_3, if_neg c_1_4, if_pos c_1_5, if_neg c_65]; done) | simp [workedF, c_1_1, c_1_2, c_1_3, c_1_4, c_1_5, c_65]) d_U_worked_73
  refine lv_tableOut (tgt := 74) hx hb d_U_worked_1 (by have := lv_neT c_1_1 (show (1 : Int32).toInt = 1 by decide); have := lv_neT c_1_2 (show (2 : Int32).toInt = 2 by decide); have := lv_neT c_1_3 (show (3 : Int32).toInt = 3 by decide); have := lv_neT c_1_4 (show (4 : Int32).toInt = 4 by decide); have := lv_neT c_1_5 (show (5 : Int32).toInt = 5 by decide); omega) (by decide) ?_
  refine lv_lconst (v := 0) hx hb d_U_worked_74 (by decide) ?_
  rw [hQ]; exact retRl hx hb hr hlocks (by first | (simp only [workedF, if_neg c_1_1, if_neg c_1_2, if_neg c_1_3, if_neg c_1_4, if_neg c_1_5]; done) | simp [workedF, c_1_1, c_1_2, c_1_3, c_1_4, c_1_5]) d_U_worked_75
