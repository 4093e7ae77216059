/-! the reference: one object and fourteen rows -/
def wZ (cI : ClassId) (cL : ClassId) (z0 : Nat) (y1 : Nat) (y2 : Nat) (y3 : Nat) (y4 : Nat) (y5 : Nat) (y6 : Nat) (y7 : Nat) (y8 : Nat) (y9 : Nat) (y10 : Nat) (y11 : Nat) (y12 : Nat) (y13 : Nat) (y14 : Nat) (mn : Fn) (oo : Fn) (oa : Fn) (ob : Fn) (ss : Fn) (gg : Fn) (zz : Fn) (md : Fn) (sd : Fn) (da : Fn) (rg : FL) (pp : FL) (kp : FL) (ot : FL) (th : Int32) (li : Int32) (bl : Int32) (nw : Int32) (wr : Int32) (ru : Int32) (al : Int32) (sp : Int32) (en : Int32) (ke : Int32) (kb : Int32) (at0 : Int32) : va_W := [(z0, .inr (5, [.int th, .int li, .int bl, .int nw, .int wr, .int ru, .int al, .ref y1, .ref y2, .ref y3, .ref y4, .ref y5, .ref y6, .ref y7, .ref y8, .ref y9, .ref y10, .ref y11, .ref y12, .int sp, .int en, .ref y13, .ref y14, .int ke, .int kb, .int at0])), (y1, .inl (cI, 24, .inl mn)), (y2, .inl (cI, 1440, .inl oo)), (y3, .inl (cI, 1440, .inl oa)), (y4, .inl (cI, 1440, .inl ob)), (y5, .inl (cI, 24, .inl ss)), (y6, .inl (cI, 24, .inl gg)), (y7, .inl (cI, 24, .inl zz)), (y8, .inl (cI, 7200, .inl md)), (y9, .inl (cI, 61, .inl sd)), (y10, .inl (cI, 301, .inl da)), (y11, .inl (cL, 4, .inr (.inl rg))), (y12, .inl (cL, 8, .inr (.inl pp))), (y13, .inl (cL, 4, .inr (.inl kp))), (y14, .inl (cL, 4, .inr (.inl ot)))]

def wiF (v lo hi : Int32) : Int32 := if v < lo then 0 else if hi < v then 0 else 1
def zinF (o x y : Int32) : Int32 := if wiF o 0 7 = 0 then 0 else if wiF x 0 3 = 0 then 0 else if o = 0 then 1 else if o = 6 then (if wiF y 0 60 = 0 then 0 else 1) else (if wiF y 0 3 = 0 then 0 else 1)
def zbyF (o y : Int32) : Int32 := if o = 0 then (if wiF y (-128) 127 = 0 then 7 else 4) else if o = 6 then 5 else if 6 ≤ o then 4 else 7
def zcoF (c : Int32) : Int32 := if wiF c 1 10 = 0 then (if c = 16 then 1 else 0) else 1
def zleF (c : Int32) : Int32 := if c = 3 then 5 else if c = 9 then 3 else if c < 3 then 2 else if c = 16 then 2 else 1
def ztaF (c : Int32) : Int32 := if c = 2 then 1 else if c = 9 then 1 else if wiF c 4 8 = 0 then 0 else 2
def zpuF (c : Int32) : Int32 := if c = 2 then 0 else if c = 9 then 0 else if c = 10 then 0 else 1
def zreF (o : Int32) (x y : Int64) : Int64 := if o = 1 then x + y else if o = 2 then x - y else if o = 3 then x * y else if o = 4 then x / y else (if 0 ≤ lg_cmp x y then 0 else 1)

abbrev w_Z_within : List Cond := .code y_Z_within b_Z_within 3 (some .boolean) :: BIG
set_option maxHeartbeats 4000000 in
set_option maxRecDepth 100000 in
theorem c_Z_within (l : Launch) (D : va_G) (cI cL cO : ClassId) (v : Int32) (lo : Int32) (hi : Int32) : CRi l y_Z_within w_Z_within ({ frames := 0, cells := 0, slots := 0, locals := 0 }) D cI cL cO [.int v, .int lo, .int hi] ([]) (wiF v lo hi) := by
  refine ofR (cc := b_Z_within) (maxL := 3) (ret := (some .boolean)) (by decide) rfl (Nat.le_of_ble_eq_true rfl) ?_
  intro p e s m below meth c ls Q hQ hx hb hr hlocks hts hown hml hP hK hl
  have hl : lv_has ls 3 [(0, .int v), (1, .int lo), (2, .int hi)] := hl
  have hown : s.vm.findClass R_Z = some m.cls := hown
  have ht : ∀ w ∈ BIG, w.before _ s = true := fun w h => hts w (List.mem_cons_of_mem _ h)
  refine lv_iload_n hx hb d_Z_within_0 rfl (lv_at hl 0 rfl) ?_
  refine lv_iload_n hx hb d_Z_within_1 rfl (lv_at hl 1 rfl) ?_
  refine lv_icmp_lt (tgt := 14) hx hb d_Z_within_2 (by decide) (fun c_2 => ?_) (fun c_2 => ?_)
  · refine lv_iconst (v := 0) hx hb d_Z_within_14 (by decide) ?_
    rw [hQ]; exact retRz hx hb hr hlocks rfl (by first | (simp only [wiF, if_pos c_2]; done) | simp [wiF, c_2]) d_Z_within_15
  · refine lv_iload_n hx hb d_Z_within_5 rfl (lv_at hl 0 rfl) ?_
    refine lv_iload_n hx hb d_Z_within_6 rfl (lv_at hl 2 rfl) ?_
    refine lv_icmp_gt (tgt := 14) hx hb d_Z_within_7 (by decide) (fun c_7 => ?_) (fun c_7 => ?_)
    · refine lv_iconst (v := 0) hx hb d_Z_within_14 (by decide) ?_
      rw [hQ]; exact retRz hx hb hr hlocks rfl (by first | (simp only [wiF, if_neg c_2, if_pos c_7]; done) | simp [wiF, c_2, c_7]) d_Z_within_15
    · refine lv_iconst (v := 1) hx hb d_Z_within_10 (by decide) ?_
      refine lv_goto (tgt := 15) hx hb d_Z_within_11 (by decide) ?_
      rw [hQ]; exact retRz hx hb hr hlocks rfl (by first | (simp only [wiF, if_neg c_2, if_neg c_7]; done) | simp [wiF, c_2, c_7]) d_Z_within_15

abbrev w_Z_isInstruction : List Cond := .code y_Z_isInstruction b_Z_isInstruction 3 (some .boolean) :: BIG
set_option maxHeartbeats 4000000 in
set_option maxRecDepth 100000 in
theorem c_Z_isInstruction (l : Launch) (D : va_G) (cI cL cO : ClassId) (ox : Int32) (x : Int32) (y : Int32) : CRi l y_Z_isInstruction w_Z_isInstruction ({ frames := 1, cells := 0, slots := 0, locals := 22 }) D cI cL cO [.int ox, .int x, .int y] ([]) (zinF ox x y) := by
  refine ofR (cc := b_Z_isInstruction) (maxL := 3) (ret := (some .boolean)) (by decide) rfl (Nat.le_of_ble_eq_true rfl) ?_
  intro p e s m below meth c ls Q hQ hx hb hr hlocks hts hown hml hP hK hl
  have hl : lv_has ls 3 [(0, .int ox), (1, .int x), (2, .int y)] := hl
  have hown : s.vm.findClass R_Z = some m.cls := hown
  have ht : ∀ w ∈ BIG, w.before _ s = true := fun w h => hts w (List.mem_cons_of_mem _ h)
  refine lv_iload_n hx hb d_Z_isInstruction_0 rfl (lv_at hl 0 rfl) ?_
  refine lv_iconst (v := 0) hx hb d_Z_isInstruction_1 (by decide) ?_
  refine lv_bipush (v := 7) hx hb d_Z_isInstruction_2 (by decide) ?_
  refine goRi (va_runS (As := [.int ox, .int 0, .int 7]) (rest := []) ⟨hx, hb, hml, hown, hts⟩ (c_Z_within l D cI cL cO ox 0 7) (cwS 3 hts (gBIG (m3 k_ml_Z_63 k_st_Z_within k_ini_Z) k_co_Z_within) rfl rfl rfl (by decide +kernel) ⟨Nat.le_of_ble_eq_true rfl, Nat.le_of_ble_eq_true rfl⟩) ⟨PR.bl, PR.pre P_nil hK⟩ rfl rfl hl.1 rfl (lv_room (Nat.le_of_ble_eq_true rfl)) d_Z_isInstruction_4 ⟨Nat.le_of_ble_eq_true rfl, Nat.le_of_ble_eq_true rfl⟩) ?_
  refine lv_if_eq (tgt := 19) hx hb d_Z_isInstruction_7 (by decide) (fun c_7 => ?_) (fun c_7 => ?_)
  · refine lv_iconst (v := 0) hx hb d_Z_isInstruction_19 (by decide) ?_
    rw [hQ]; exact retRz hx hb hr hlocks rfl (by first | (simp only [zinF, if_pos c_7]; done) | simp [zinF, c_7]) d_Z_isInstruction_20
  · refine lv_iload_n hx hb d_Z_isInstruction_10 rfl (lv_at hl 1 rfl) ?_
    refine lv_iconst (v := 0) hx hb d_Z_isInstruction_11 (by decide) ?_
    refine lv_iconst (v := 3) hx hb d_Z_isInstruction_12 (by decide) ?_
    refine goRi (va_runS (As := [.int x, .int 0, .int 3]) (rest := []) ⟨hx, hb, hml, hown, hts⟩ (c_Z_within l D cI cL cO x 0 3) (cwS 3 hts (gBIG (m3 k_ml_Z_63 k_st_Z_within k_ini_Z) k_co_Z_within) rfl rfl rfl (by decide +kernel) ⟨Nat.le_of_ble_eq_true rfl, Nat.le_of_ble_eq_true rfl⟩) ⟨PR.bl, PR.pre P_nil hK⟩ rfl rfl hl.1 rfl (lv_room (Nat.le_of_ble_eq_true rfl)) d_Z_isInstruction_13 ⟨Nat.le_of_ble_eq_true rfl, Nat.le_of_ble_eq_true rfl⟩) ?_
    refine lv_if_ne (tgt := 21) hx hb d_Z_isInstruction_16 (by decide) (fun c_16 => ?_) (fun c_16 => ?_)
    · refine lv_iload_n hx hb d_Z_isInstruction_21 rfl (lv_at hl 0 rfl) ?_
      refine lv_if_eq (tgt := 53) hx hb d_Z_isInstruction_22 (by decide) (fun c_22 => ?_) (fun c_22 => ?_)
      · refine lv_iconst (v := 1) hx hb d_Z_isInstruction_53 (by decide) ?_
        refine lv_goto (tgt := 58) hx hb d_Z_isInstruction_54 (by decide) ?_
        rw [hQ]; exact retRz hx hb hr hlocks rfl (by first | (simp only [zinF, if_neg c_7, if_neg c_16, if_pos c_22]; done) | simp [zinF, c_7, c_16, c_22]) d_Z_isInstruction_58
      · refine lv_iload_n hx hb d_Z_isInstruction_25 rfl (lv_at hl 0 rfl) ?_
        refine lv_bipush (v := 6) hx hb d_Z_isInstruction_26 (by decide) ?_
        refine lv_icmp_ne (tgt := 44) hx hb d_Z_isInstruction_28 (by decide) (fun c_28 => ?_) (fun c_28 => ?_)
        · refine lv_iload_n hx hb d_Z_isInstruction_44 rfl (lv_at hl 2 rfl) ?_
          refine lv_iconst (v := 0) hx hb d_Z_isInstruction_45 (by decide) ?_
          refine lv_iconst (v := 3) hx hb d_Z_isInstruction_46 (by decide) ?_
          refine goRi (va_runS (As := [.int y, .int 0, .int 3]) (rest := []) ⟨hx, hb, hml, hown, hts⟩ (c_Z_within l D cI cL cO y 0 3) (cwS 3 hts (gBIG (m3 k_ml_Z_63 k_st_Z_within k_ini_Z) k_co_Z_within) rfl rfl rfl (by decide +kernel) ⟨Nat.le_of_ble_eq_true rfl, Nat.le_of_ble_eq_true rfl⟩) ⟨PR.bl, PR.pre P_nil hK⟩ rfl rfl hl.1 rfl (lv_room (Nat.le_of_ble_eq_true rfl)) d_Z_isInstruction_47 ⟨Nat.le_of_ble_eq_true rfl, Nat.le_of_ble_eq_true rfl⟩) ?_
          refine lv_if_eq (tgt := 57) hx hb d_Z_isInstruction_50 (by decide) (fun c_50 => ?_) (fun c_50 => ?_)
          · refine lv_iconst (v := 0) hx hb d_Z_isInstruction_57 (by decide) ?_
            rw [hQ]; exact retRz hx hb hr hlocks rfl (by first | (simp only [zinF, if_neg c_7, if_neg c_16, if_neg c_22, if_neg c_28, if_pos c_50]; done) | simp [zinF, c_7, c_16, c_22, c_28, c_50]) d_Z_isInstruction_58
          · refine lv_iconst (v := 1) hx hb d_Z_isInstruction_53 (by decide) ?_
            refine lv_goto (tgt := 58) hx hb d_Z_isInstruction_54 (by decide) ?_
            rw [hQ]; exact retRz hx hb hr hlocks rfl (by first | (simp only [zinF, if_neg c_7, if_neg c_16, if_neg c_22, if_neg c_28, if_neg c_50]; done) | simp [zinF, c_7, c_16, c_22, c_28, c_50]) d_Z_isInstruction_58
        · refine lv_iload_n hx hb d_Z_isInstruction_31 rfl (lv_at hl 2 rfl) ?_
          refine lv_iconst (v := 0) hx hb d_Z_isInstruction_32 (by decide) ?_
          refine lv_bipush (v := 60) hx hb d_Z_isInstruction_33 (by decide) ?_
          refine goRi (va_runS (As := [.int y, .int 0, .int 60]) (rest := []) ⟨hx, hb, hml, hown, hts⟩ (c_Z_within l D cI cL cO y 0 60) (cwS 3 hts (gBIG (m3 k_ml_Z_63 k_st_Z_within k_ini_Z) k_co_Z_within) rfl rfl rfl (by decide +kernel) ⟨Nat.le_of_ble_eq_true rfl, Nat.le_of_ble_eq_true rfl⟩) ⟨PR.bl, PR.pre P_nil hK⟩ rfl rfl hl.1 rfl (lv_room (Nat.le_of_ble_eq_true rfl)) d_Z_isInstruction_35 ⟨Nat.le_of_ble_eq_true rfl, Nat.le_of_ble_eq_true rfl⟩) ?_
          refine lv_if_eq (tgt := 57) hx hb d_Z_isInstruction_38 (by decide) (fun c_38 => ?_) (fun c_38 => ?_)
          · refine lv_iconst (v := 0) hx hb d_Z_isInstruction_57 (by decide) ?_
            rw [hQ]; exact retRz hx hb hr hlocks rfl (by first | (simp only [zinF, if_neg c_7, if_neg c_16, if_neg c_22, if_pos c_28, if_pos c_38]; done) | simp [zinF, c_7, c_16, c_22, c_28, c_38]) d_Z_isInstruction_58
          · refine lv_goto (tgt := 53) hx hb d_Z_isInstruction_41 (by decide) ?_
            refine lv_iconst (v := 1) hx hb d_Z_isInstruction_53 (by decide) ?_
            refine lv_goto (tgt := 58) hx hb d_Z_isInstruction_54 (by decide) ?_
            rw [hQ]; exact retRz hx hb hr hlocks rfl (by first | (simp only [zinF, if_neg c_7, if_neg c_16, if_neg c_22, if_pos c_28, if_neg c_38]; done) | simp [zinF, c_7, c_16, c_22, c_28, c_38]) d_Z_isInstruction_58
    · refine lv_iconst (v := 0) hx hb d_Z_isInstruction_19 (by decide) ?_
      rw [hQ]; exact retRz hx hb hr hlocks rfl (by first | (simp only [zinF, if_neg c_7, if_pos c_16]; done) | simp [zinF, c_7, c_16]) d_Z_isInstruction_20

abbrev w_Z_bytesOf : List Cond := .code y_Z_bytesOf b_Z_bytesOf 2 (some .int) :: BIG
set_option maxHeartbeats 4000000 in
set_option maxRecDepth 100000 in
theorem c_Z_bytesOf (l : Launch) (D : va_G) (cI cL cO : ClassId) (ox : Int32) (y : Int32) : CRi l y_Z_bytesOf w_Z_bytesOf ({ frames := 1, cells := 0, slots := 0, locals := 22 }) D cI cL cO [.int ox, .int y] ([]) (zbyF ox y) := by
  refine ofR (cc := b_Z_bytesOf) (maxL := 2) (ret := (some .int)) (by decide) rfl (Nat.le_of_ble_eq_true rfl) ?_
  intro p e s m below meth c ls Q hQ hx hb hr hlocks hts hown hml hP hK hl
  have hl : lv_has ls 2 [(0, .int ox), (1, .int y)] := hl
  have hown : s.vm.findClass R_Z = some m.cls := hown
  have ht : ∀ w ∈ BIG, w.before _ s = true := fun w h => hts w (List.mem_cons_of_mem _ h)
  refine lv_iload_n hx hb d_Z_bytesOf_0 rfl (lv_at hl 0 rfl) ?_
  refine lv_if_ne (tgt := 24) hx hb d_Z_bytesOf_1 (by decide) (fun c_1 => ?_) (fun c_1 => ?_)
  · refine lv_iload_n hx hb d_Z_bytesOf_24 rfl (lv_at hl 0 rfl) ?_
    refine lv_bipush (v := 6) hx hb d_Z_bytesOf_25 (by decide) ?_
    refine lv_icmp_ne (tgt := 34) hx hb d_Z_bytesOf_27 (by decide) (fun c_27 => ?_) (fun c_27 => ?_)
    · refine lv_iload_n hx hb d_Z_bytesOf_34 rfl (lv_at hl 0 rfl) ?_
      refine lv_bipush (v := 6) hx hb d_Z_bytesOf_35 (by decide) ?_
      refine lv_icmp_ge (tgt := 45) hx hb d_Z_bytesOf_37 (by decide) (fun c_37 => ?_) (fun c_37 => ?_)
      · refine lv_iconst (v := 4) hx hb d_Z_bytesOf_45 (by decide) ?_
        rw [hQ]; exact retRi hx hb hr hlocks (by first | (simp only [zbyF, if_neg c_1, if_neg c_27, if_pos c_37]; done) | simp [zbyF, c_1, c_27, c_37]) d_Z_bytesOf_46
      · refine lv_bipush (v := 7) hx hb d_Z_bytesOf_40 (by decide) ?_
        refine lv_goto (tgt := 46) hx hb d_Z_bytesOf_42 (by decide) ?_
        rw [hQ]; exact retRi hx hb hr hlocks (by first | (simp only [zbyF, if_neg c_1, if_neg c_27, if_neg c_37]; done) | simp [zbyF, c_1, c_27, c_37]) d_Z_bytesOf_46
    · refine lv_iconst (v := 5) hx hb d_Z_bytesOf_30 (by decide) ?_
      refine lv_goto (tgt := 46) hx hb d_Z_bytesOf_31 (by decide) ?_
      rw [hQ]; exact retRi hx hb hr hlocks (by first | (simp only [zbyF, if_neg c_1, if_pos c_27]; done) | simp [zbyF, c_1, c_27]) d_Z_bytesOf_46
  · refine lv_iload_n hx hb d_Z_bytesOf_4 rfl (lv_at hl 1 rfl) ?_
    refine lv_bipush (v := (-128)) hx hb d_Z_bytesOf_5 (by decide) ?_
    refine lv_bipush (v := 127) hx hb d_Z_bytesOf_7 (by decide) ?_
    refine goRi (va_runS (As := [.int y, .int (-128), .int 127]) (rest := []) ⟨hx, hb, hml, hown, hts⟩ (c_Z_within l D cI cL cO y (-128) 127) (cwS 3 hts (gBIG (m3 k_ml_Z_63 k_st_Z_within k_ini_Z) k_co_Z_within) rfl rfl rfl (by decide +kernel) ⟨Nat.le_of_ble_eq_true rfl, Nat.le_of_ble_eq_true rfl⟩) ⟨PR.bl, PR.pre P_nil hK⟩ rfl rfl hl.1 rfl (lv_room (Nat.le_of_ble_eq_true rfl)) d_Z_bytesOf_9 ⟨Nat.le_of_ble_eq_true rfl, Nat.le_of_ble_eq_true rfl⟩) ?_
    refine lv_if_eq (tgt := 19) hx hb d_Z_bytesOf_12 (by decide) (fun c_12 => ?_) (fun c_12 => ?_)
    · refine lv_bipush (v := 7) hx hb d_Z_bytesOf_19 (by decide) ?_
      refine lv_goto (tgt := 46) hx hb d_Z_bytesOf_21 (by decide) ?_
      rw [hQ]; exact retRi hx hb hr hlocks (by first | (simp only [zbyF, if_pos c_1, if_pos c_12]; done) | simp [zbyF, c_1, c_12]) d_Z_bytesOf_46
    · refine lv_iconst (v := 4) hx hb d_Z_bytesOf_15 (by decide) ?_
      refine lv_goto (tgt := 46) hx hb d_Z_bytesOf_16 (by decide) ?_
      rw [hQ]; exact retRi hx hb hr hlocks (by first | (simp only [zbyF, if_pos c_1, if_neg c_12]; done) | simp [zbyF, c_1, c_12]) d_Z_bytesOf_46

abbrev w_Z_isCode : List Cond := .code y_Z_isCode b_Z_isCode 1 (some .boolean) :: BIG
set_option maxHeartbeats 4000000 in
set_option maxRecDepth 100000 in
theorem c_Z_isCode (l : Launch) (D : va_G) (cI cL cO : ClassId) (cd : Int32) : CRi l y_Z_isCode w_Z_isCode ({ frames := 1, cells := 0, slots := 0, locals := 22 }) D cI cL cO [.int cd] ([]) (zcoF cd) := by
  refine ofR (cc := b_Z_isCode) (maxL := 1) (ret := (some .boolean)) (by decide) rfl (Nat.le_of_ble_eq_true rfl) ?_
  intro p e s m below meth c ls Q hQ hx hb hr hlocks hts hown hml hP hK hl
  have hl : lv_has ls 1 [(0, .int cd)] := hl
  have hown : s.vm.findClass R_Z = some m.cls := hown
  have ht : ∀ w ∈ BIG, w.before _ s = true := fun w h => hts w (List.mem_cons_of_mem _ h)
  refine lv_iload_n hx hb d_Z_isCode_0 rfl (lv_at hl 0 rfl) ?_
  refine lv_iconst (v := 1) hx hb d_Z_isCode_1 (by decide) ?_
  refine lv_bipush (v := 10) hx hb d_Z_isCode_2 (by decide) ?_
  refine goRi (va_runS (As := [.int cd, .int 1, .int 10]) (rest := []) ⟨hx, hb, hml, hown, hts⟩ (c_Z_within l D cI cL cO cd 1 10) (cwS 3 hts (gBIG (m3 k_ml_Z_63 k_st_Z_within k_ini_Z) k_co_Z_within) rfl rfl rfl (by decide +kernel) ⟨Nat.le_of_ble_eq_true rfl, Nat.le_of_ble_eq_true rfl⟩) ⟨PR.bl, PR.pre P_nil hK⟩ rfl rfl hl.1 rfl (lv_room (Nat.le_of_ble_eq_true rfl)) d_Z_isCode_4 ⟨Nat.le_of_ble_eq_true rfl, Nat.le_of_ble_eq_true rfl⟩) ?_
  refine lv_if_ne (tgt := 16) hx hb d_Z_isCode_7 (by decide) (fun c_7 => ?_) (fun c_7 => ?_)
  · refine lv_iconst (v := 1) hx hb d_Z_isCode_16 (by decide) ?_
    refine lv_goto (tgt := 21) hx hb d_Z_isCode_17 (by decide) ?_
    rw [hQ]; exact retRz hx hb hr hlocks rfl (by first | (simp only [zcoF, if_neg c_7]; done) | simp [zcoF, c_7]) d_Z_isCode_21
  · refine lv_iload_n hx hb d_Z_isCode_10 rfl (lv_at hl 0 rfl) ?_
    refine lv_bipush (v := 16) hx hb d_Z_isCode_11 (by decide) ?_
    refine lv_icmp_ne (tgt := 20) hx hb d_Z_isCode_13 (by decide) (fun c_13 => ?_) (fun c_13 => ?_)
    · refine lv_iconst (v := 0) hx hb d_Z_isCode_20 (by decide) ?_
      rw [hQ]; exact retRz hx hb hr hlocks rfl (by first | (simp only [zcoF, if_pos c_7, if_neg c_13]; done) | simp [zcoF, c_7, c_13]) d_Z_isCode_21
    · refine lv_iconst (v := 1) hx hb d_Z_isCode_16 (by decide) ?_
      refine lv_goto (tgt := 21) hx hb d_Z_isCode_17 (by decide) ?_
      rw [hQ]; exact retRz hx hb hr hlocks rfl (by first | (simp only [zcoF, if_pos c_7, if_pos c_13]; done) | simp [zcoF, c_7, c_13]) d_Z_isCode_21

abbrev w_Z_lengthOf : List Cond := .code y_Z_lengthOf b_Z_lengthOf 1 (some .int) :: BIG
set_option maxHeartbeats 4000000 in
set_option maxRecDepth 100000 in
theorem c_Z_lengthOf (l : Launch) (D : va_G) (cI cL cO : ClassId) (cd : Int32) : CRi l y_Z_lengthOf w_Z_lengthOf ({ frames := 0, cells := 0, slots := 0, locals := 0 }) D cI cL cO [.int cd] ([]) (zleF cd) := by
  refine ofR (cc := b_Z_lengthOf) (maxL := 1) (ret := (some .int)) (by decide) rfl (Nat.le_of_ble_eq_true rfl) ?_
  intro p e s m below meth c ls Q hQ hx hb hr hlocks hts hown hml hP hK hl
  have hl : lv_has ls 1 [(0, .int cd)] := hl
  have hown : s.vm.findClass R_Z = some m.cls := hown
  have ht : ∀ w ∈ BIG, w.before _ s = true := fun w h => hts w (List.mem_cons_of_mem _ h)
  refine lv_iload_n hx hb d_Z_lengthOf_0 rfl (lv_at hl 0 rfl) ?_
  refine lv_iconst (v := 3) hx hb d_Z_lengthOf_1 (by decide) ?_
  refine lv_icmp_ne (tgt := 9) hx hb d_Z_lengthOf_2 (by decide) (fun c_2 => ?_) (fun c_2 => ?_)
  · refine lv_iload_n hx hb d_Z_lengthOf_9 rfl (lv_at hl 0 rfl) ?_
    refine lv_bipush (v := 9) hx hb d_Z_lengthOf_10 (by decide) ?_
    refine lv_icmp_ne (tgt := 19) hx hb d_Z_lengthOf_12 (by decide) (fun c_12 => ?_) (fun c_12 => ?_)
    · refine lv_iload_n hx hb d_Z_lengthOf_19 rfl (lv_at hl 0 rfl) ?_
      refine lv_iconst (v := 3) hx hb d_Z_lengthOf_20 (by decide) ?_
      refine lv_icmp_lt (tgt := 30) hx hb d_Z_lengthOf_21 (by decide) (fun c_21 => ?_) (fun c_21 => ?_)
      · refine lv_iconst (v := 2) hx hb d_Z_lengthOf_30 (by decide) ?_
        refine lv_goto (tgt := 35) hx hb d_Z_lengthOf_31 (by decide) ?_
        rw [hQ]; exact retRi hx hb hr hlocks (by first | (simp only [zleF, if_neg c_2, if_neg c_12, if_pos c_21]; done) | simp [zleF, c_2, c_12, c_21]) d_Z_lengthOf_35
      · refine lv_iload_n hx hb d_Z_lengthOf_24 rfl (lv_at hl 0 rfl) ?_
        refine lv_bipush (v := 16) hx hb d_Z_lengthOf_25 (by decide) ?_
        refine lv_icmp_ne (tgt := 34) hx hb d_Z_lengthOf_27 (by decide) (fun c_27 => ?_) (fun c_27 => ?_)
        · refine lv_iconst (v := 1) hx hb d_Z_lengthOf_34 (by decide) ?_
          rw [hQ]; exact retRi hx hb hr hlocks (by first | (simp only [zleF, if_neg c_2, if_neg c_12, if_neg c_21, if_neg c_27]; done) | simp [zleF, c_2, c_12, c_21, c_27]) d_Z_lengthOf_35
        · refine lv_iconst (v := 2) hx hb d_Z_lengthOf_30 (by decide) ?_
          refine lv_goto (tgt := 35) hx hb d_Z_lengthOf_31 (by decide) ?_
          rw [hQ]; exact retRi hx hb hr hlocks (by first | (simp only [zleF, if_neg c_2, if_neg c_12, if_neg c_21, if_pos c_27]; done) | simp [zleF, c_2, c_12, c_21, c_27]) d_Z_lengthOf_35
    · refine lv_iconst (v := 3) hx hb d_Z_lengthOf_15 (by decide) ?_
      refine lv_goto (tgt := 35) hx hb d_Z_lengthOf_16 (by decide) ?_
      rw [hQ]; exact retRi hx hb hr hlocks (by first | (simp only [zleF, if_neg c_2, if_pos c_12]; done) | simp [zleF, c_2, c_12]) d_Z_lengthOf_35
  · refine lv_iconst (v := 5) hx hb d_Z_lengthOf_5 (by decide) ?_
    refine lv_goto (tgt := 35) hx hb d_Z_lengthOf_6 (by decide) ?_
    rw [hQ]; exact retRi hx hb hr hlocks (by first | (simp only [zleF, if_pos c_2]; done) | simp [zleF, c_2]) d_Z_lengthOf_35

abbrev w_Z_takes : List Cond := .code y_Z_takes b_Z_takes 1 (some .int) :: BIG
set_option maxHeartbeats 4000000 in
set_option maxRecDepth 100000 in
theorem c_Z_takes (l : Launch) (D : va_G) (cI cL cO : ClassId) (cd : Int32) : CRi l y_Z_takes w_Z_takes ({ frames := 1, cells := 0, slots := 0, locals := 22 }) D cI cL cO [.int cd] ([]) (ztaF cd) := by
  refine ofR (cc := b_Z_takes) (maxL := 1) (ret := (some .int)) (by decide) rfl (Nat.le_of_ble_eq_true rfl) ?_
  intro p e s m below meth c ls Q hQ hx hb hr hlocks hts hown hml hP hK hl
  have hl : lv_has ls 1 [(0, .int cd)] := hl
  have hown : s.vm.findClass R_Z = some m.cls := hown
  have ht : ∀ w ∈ BIG, w.before _ s = true := fun w h => hts w (List.mem_cons_of_mem _ h)
  refine lv_iload_n hx hb d_Z_takes_0 rfl (lv_at hl 0 rfl) ?_
  refine lv_iconst (v := 2) hx hb d_Z_takes_1 (by decide) ?_
  refine lv_icmp_eq (tgt := 11) hx hb d_Z_takes_2 (by decide) (fun c_2 => ?_) (fun c_2 => ?_)
  · refine lv_iconst (v := 1) hx hb d_Z_takes_11 (by decide) ?_
    refine lv_goto (tgt := 30) hx hb d_Z_takes_12 (by decide) ?_
    rw [hQ]; exact retRi hx hb hr hlocks (by first | (simp only [ztaF, if_pos c_2]; done) | simp [ztaF, c_2]) d_Z_takes_30
  · refine lv_iload_n hx hb d_Z_takes_5 rfl (lv_at hl 0 rfl) ?_
    refine lv_bipush (v := 9) hx hb d_Z_takes_6 (by decide) ?_
    refine lv_icmp_ne (tgt := 15) hx hb d_Z_takes_8 (by decide) (fun c_8 => ?_) (fun c_8 => ?_)
    · refine lv_iload_n hx hb d_Z_takes_15 rfl (lv_at hl 0 rfl) ?_
      refine lv_iconst (v := 4) hx hb d_Z_takes_16 (by decide) ?_
      refine lv_bipush (v := 8) hx hb d_Z_takes_17 (by decide) ?_
      refine goRi (va_runS (As := [.int cd, .int 4, .int 8]) (rest := []) ⟨hx, hb, hml, hown, hts⟩ (c_Z_within l D cI cL cO cd 4 8) (cwS 3 hts (gBIG (m3 k_ml_Z_63 k_st_Z_within k_ini_Z) k_co_Z_within) rfl rfl rfl (by decide +kernel) ⟨Nat.le_of_ble_eq_true rfl, Nat.le_of_ble_eq_true rfl⟩) ⟨PR.bl, PR.pre P_nil hK⟩ rfl rfl hl.1 rfl (lv_room (Nat.le_of_ble_eq_true rfl)) d_Z_takes_19 ⟨Nat.le_of_ble_eq_true rfl, Nat.le_of_ble_eq_true rfl⟩) ?_
      refine lv_if_eq (tgt := 29) hx hb d_Z_takes_22 (by decide) (fun c_22 => ?_) (fun c_22 => ?_)
      · refine lv_iconst (v := 0) hx hb d_Z_takes_29 (by decide) ?_
        rw [hQ]; exact retRi hx hb hr hlocks (by first | (simp only [ztaF, if_neg c_2, if_neg c_8, if_pos c_22]; done) | simp [ztaF, c_2, c_8, c_22]) d_Z_takes_30
      · refine lv_iconst (v := 2) hx hb d_Z_takes_25 (by decide) ?_
        refine lv_goto (tgt := 30) hx hb d_Z_takes_26 (by decide) ?_
        rw [hQ]; exact retRi hx hb hr hlocks (by first | (simp only [ztaF, if_neg c_2, if_neg c_8, if_neg c_22]; done) | simp [ztaF, c_2, c_8, c_22]) d_Z_takes_30
    · refine lv_iconst (v := 1) hx hb d_Z_takes_11 (by decide) ?_
      refine lv_goto (tgt := 30) hx hb d_Z_takes_12 (by decide) ?_
      rw [hQ]; exact retRi hx hb hr hlocks (by first | (simp only [ztaF, if_neg c_2, if_pos c_8]; done) | simp [ztaF, c_2, c_8]) d_Z_takes_30

abbrev w_Z_puts : List Cond := .code y_Z_puts b_Z_puts 1 (some .int) :: BIG
set_option maxHeartbeats 4000000 in
set_option maxRecDepth 100000 in
theorem c_Z_puts (l : Launch) (D : va_G) (cI cL cO : ClassId) (cd : Int32) : CRi l y_Z_puts w_Z_puts ({ frames := 0, cells := 0, slots := 0, locals := 0 }) D cI cL cO [.int cd] ([]) (zpuF cd) := by
  refine ofR (cc := b_Z_puts) (maxL := 1) (ret := (some .int)) (by decide) rfl (Nat.le_of_ble_eq_true rfl) ?_
  intro p e s m below meth c ls Q hQ hx hb hr hlocks hts hown hml hP hK hl
  have hl : lv_has ls 1 [(0, .int cd)] := hl
  have hown : s.vm.findClass R_Z = some m.cls := hown
  have ht : ∀ w ∈ BIG, w.before _ s = true := fun w h => hts w (List.mem_cons_of_mem _ h)
  refine lv_iload_n hx hb d_Z_puts_0 rfl (lv_at hl 0 rfl) ?_
  refine lv_iconst (v := 2) hx hb d_Z_puts_1 (by decide) ?_
  refine lv_icmp_eq (tgt := 17) hx hb d_Z_puts_2 (by decide) (fun c_2 => ?_) (fun c_2 => ?_)
  · refine lv_iconst (v := 0) hx hb d_Z_puts_17 (by decide) ?_
    refine lv_goto (tgt := 22) hx hb d_Z_puts_18 (by decide) ?_
    rw [hQ]; exact retRi hx hb hr hlocks (by first | (simp only [zpuF, if_pos c_2]; done) | simp [zpuF, c_2]) d_Z_puts_22
  · refine lv_iload_n hx hb d_Z_puts_5 rfl (lv_at hl 0 rfl) ?_
    refine lv_bipush (v := 9) hx hb d_Z_puts_6 (by decide) ?_
    refine lv_icmp_eq (tgt := 17) hx hb d_Z_puts_8 (by decide) (fun c_8 => ?_) (fun c_8 => ?_)
    · refine lv_iconst (v := 0) hx hb d_Z_puts_17 (by decide) ?_
      refine lv_goto (tgt := 22) hx hb d_Z_puts_18 (by decide) ?_
      rw [hQ]; exact retRi hx hb hr hlocks (by first | (simp only [zpuF, if_neg c_2, if_pos c_8]; done) | simp [zpuF, c_2, c_8]) d_Z_puts_22
    · refine lv_iload_n hx hb d_Z_puts_11 rfl (lv_at hl 0 rfl) ?_
      refine lv_bipush (v := 10) hx hb d_Z_puts_12 (by decide) ?_
      refine lv_icmp_ne (tgt := 21) hx hb d_Z_puts_14 (by decide) (fun c_14 => ?_) (fun c_14 => ?_)
      · refine lv_iconst (v := 1) hx hb d_Z_puts_21 (by decide) ?_
        rw [hQ]; exact retRi hx hb hr hlocks (by first | (simp only [zpuF, if_neg c_2, if_neg c_8, if_neg c_14]; done) | simp [zpuF, c_2, c_8, c_14]) d_Z_puts_22
      · refine lv_iconst (v := 0) hx hb d_Z_puts_17 (by decide) ?_
        refine lv_goto (tgt := 22) hx hb d_Z_puts_18 (by decide) ?_
        rw [hQ]; exact retRi hx hb hr hlocks (by first | (simp only [zpuF, if_neg c_2, if_neg c_8, if_pos c_14]; done) | simp [zpuF, c_2, c_8, c_14]) d_Z_puts_22

abbrev w_Z_result : List Cond := .code y_Z_result b_Z_result 5 (some .long) :: BIG
set_option maxHeartbeats 4000000 in
set_option maxRecDepth 100000 in
theorem c_Z_result (l : Launch) (D : va_G) (cI cL cO : ClassId) (ox : Int32) (x : Int64) (y : Int64) (hz : ox = 4 → ¬ y = 0) : CRl l y_Z_result w_Z_result ({ frames := 0, cells := 0, slots := 0, locals := 0 }) D cI cL cO [.int ox, .long x, .long y] ([]) (zreF ox x y) := by
  refine ofR (cc := b_Z_result) (maxL := 5) (ret := (some .long)) (by decide) rfl (Nat.le_of_ble_eq_true rfl) ?_
  intro p e s m below meth c ls Q hQ hx hb hr hlocks hts hown hml hP hK hl
  have hl : lv_has ls 5 [(0, .int ox), (1, .long x), (3, .long y)] := hl
  have hown : s.vm.findClass R_Z = some m.cls := hown
  have ht : ∀ w ∈ BIG, w.before _ s = true := fun w h => hts w (List.mem_cons_of_mem _ h)
  refine lv_iload_n hx hb d_Z_result_0 rfl (lv_at hl 0 rfl) ?_
  by_cases c_1_1 : ox = 1
  · refine lv_tableIn (off := 31) (tgt := 32) hx hb d_Z_result_1 (by rw [c_1_1]; decide) (by rw [c_1_1]; decide) (by rw [c_1_1] <;> rfl) (by decide) ?_
    refine lv_lload_n hx hb d_Z_result_32 rfl (lv_at hl 1 rfl) ?_
    refine lv_lload_n hx hb d_Z_result_33 rfl (lv_at hl 2 rfl) ?_
    refine lv_ladd hx hb d_Z_result_34 ?_
    rw [hQ]; exact retRl hx hb hr hlocks (by first | (simp only [zreF, if_pos c_1_1]; done) | simp [zreF, c_1_1]) d_Z_result_35
  by_cases c_1_2 : ox = 2
  · refine lv_tableIn (off := 35) (tgt := 36) hx hb d_Z_result_1 (by rw [c_1_2]; decide) (by rw [c_1_2]; decide) (by rw [c_1_2] <;> rfl) (by decide) ?_
    refine lv_lload_n hx hb d_Z_result_36 rfl (lv_at hl 1 rfl) ?_
    refine lv_lload_n hx hb d_Z_result_37 rfl (lv_at hl 2 rfl) ?_
    refine lv_lsub hx hb d_Z_result_38 ?_
    rw [hQ]; exact retRl hx hb hr hlocks (by first | (simp only [zreF, if_neg c_1_1, if_pos c_1_2]; done) | simp [zreF, c_1_1, c_1_2]) d_Z_result_39
  by_cases c_1_3 : ox = 3
  · refine lv_tableIn (off := 39) (tgt := 40) hx hb d_Z_result_1 (by rw [c_1_3]; decide) (by rw [c_1_3]; decide) (by rw [c_1_3] <;> rfl) (by decide) ?_
    refine lv_lload_n hx hb d_Z_result_40 rfl (lv_at hl 1 rfl) ?_
    refine lv_lload_n hx hb d_Z_result_41 rfl (lv_at hl 2 rfl) ?_
    refine lv_lmul hx hb d_Z_result_42 ?_
    rw [hQ]; exact retRl hx hb hr hlocks (by first | (simp only [zreF, if_neg c_1_1, if_neg c_1_2, if_pos c_1_3]; done) | simp [zreF, c_1_1, c_1_2, c_1_3]) d_Z_result_43
  by_cases c_1_4 : ox = 4
  · refine lv_tableIn (off := 43) (tgt := 44) hx hb d_Z_result_1 (by rw [c_1_4]; decide) (by rw [c_1_4]; decide) (by rw [c_1_4] <;> rfl) (by decide) ?_
    refine lv_lload_n hx hb d_Z_result_44 rfl (lv_at hl 1 rfl) ?_
    refine lv_lload_n hx hb d_Z_result_45 rfl (lv_at hl 2 rfl) ?_
    refine lv_ldiv hx hb d_Z_result_46 (hz c_1_4) ?_
    rw [hQ]; exact retRl hx hb hr hlocks (by first | (simp only [zreF, if_neg c_1_1, if_neg c_1_2, if_neg c_1_3, if_pos c_1_4]; done) | simp [zreF, c_1_1, c_1_2, c_1_3, c_1_4]) d_Z_result_47
  refine lv_tableOut (tgt := 48) hx hb d_Z_result_1 (by have := lv_neT c_1_1 (show (1 : Int32).toInt = 1 by decide); have := lv_neT c_1_2 (show (2 : Int32).toInt = 2 by decide); have := lv_neT c_1_3 (show (3 : Int32).toInt = 3 by decide); have := lv_neT c_1_4 (show (4 : Int32).toInt = 4 by decide); omega) (by decide) ?_
  refine lv_lload_n hx hb d_Z_result_48 rfl (lv_at hl 1 rfl) ?_
  refine lv_lload_n hx hb d_Z_result_49 rfl (lv_at hl 2 rfl) ?_
  refine W.lcmp hx hb d_Z_result_50 ?_
  refine lv_if_ge (tgt := 58) hx hb d_Z_result_51 (by decide) (fun c_51 => ?_) (fun c_51 => ?_)
  · refine lv_lconst (v := 0) hx hb d_Z_result_58 (by decide) ?_
    rw [hQ]; exact retRl hx hb hr hlocks (by first | (simp only [zreF, if_neg c_1_1, if_neg c_1_2, if_neg c_1_3, if_neg c_1_4, if_pos c_51]; done) | simp [zreF, c_1_1, c_1_2, c_1_3, c_1_4, c_51]) d_Z_result_59
  · refine lv_lconst (v := 1) hx hb d_Z_result_54 (by decide) ?_
    refine lv_goto (tgt := 59) hx hb d_Z_result_55 (by decide) ?_
    rw [hQ]; exact retRl hx hb hr hlocks (by first | (simp only [zreF, if_neg c_1_1, if_neg c_1_2, if_neg c_1_3, if_neg c_1_4, if_neg c_51]; done) | simp [zreF, c_1_1, c_1_2, c_1_3, c_1_4, c_51]) d_Z_result_59
