abbrev w_B_hasByte : List Cond := .code y_B_hasByte b_B_hasByte 2 (some .boolean) :: BIG
set_option maxHeartbeats 4000000 in
set_option maxRecDepth 100000 in
theorem c_B_hasByte (l : Launch) (D : va_G) (cI cL cO : ClassId) (h0 : Nat) (q1 : Nat) (q2 : Nat) (q3 : Nat) (q4 : Nat) (q5 : Nat) (o : Fn) (f : Fn) (ee : Fn) (t : Fn) (b : Fn) (ic : Int32) (bc : Int32) (sa : Int32) (gn : Int32) (i : Int32) : CRi l y_B_hasByte w_B_hasByte ({ frames := 0, cells := 0, slots := 0, locals := 0 }) D cI cL cO [.ref h0, .int i] (wB cI h0 q1 q2 q3 q4 q5 o f ee t b ic bc sa gn) (hasF bc i) := by
  refine ofR (cc := b_B_hasByte) (maxL := 2) (ret := (some .boolean)) (by decide) rfl (Nat.le_of_ble_eq_true rfl) ?_
  intro p e s m below meth c ls Q hQ hx hb hr hlocks hts hown hml hP hK hl
  have hl : lv_has ls 2 [(0, .ref h0), (1, .int i)] := hl
  have hown : s.vm.findClass R_B = some m.cls := hown
  have ht : ∀ w ∈ BIG, w.before _ s = true := fun w h => hts w (List.mem_cons_of_mem _ h)
  refine lv_iload_n hx hb d_B_hasByte_0 rfl (lv_at hl 1 rfl) ?_
  refine lv_if_lt (tgt := 23) hx hb d_B_hasByte_1 (by decide) (fun c_1 => ?_) (fun c_1 => ?_)
  · refine lv_iconst (v := 0) hx hb d_B_hasByte_23 (by decide) ?_
    rw [hQ]; exact retRz hx hb hr hlocks rfl (by simp [hasF, c_1]) d_B_hasByte_24
  · refine lv_iload_n hx hb d_B_hasByte_4 rfl (lv_at hl 1 rfl) ?_
    refine lv_aload_n hx hb d_B_hasByte_5 rfl (lv_at hl 0 rfl) ?_
    refine va_get (ci := 0) (v := .int bc) (C := R_B) (T := T_B) (N := 9) hx hb ht in_B hown hK.1 hP 0 rfl rfl 6 (by decide) (ht _ k_fl_B_41) (fun _ h9 => h9) rfl d_B_hasByte_6 ?_
    refine lv_icmp_ge (tgt := 23) hx hb d_B_hasByte_9 (by decide) (fun c_9 => ?_) (fun c_9 => ?_)
    · refine lv_iconst (v := 0) hx hb d_B_hasByte_23 (by decide) ?_
      rw [hQ]; exact retRz hx hb hr hlocks rfl (by simp [hasF, c_1, c_9]) d_B_hasByte_24
    · refine lv_iload_n hx hb d_B_hasByte_12 rfl (lv_at hl 1 rfl) ?_
      refine lv_sipush (v := 300) hx hb d_B_hasByte_13 (by decide) ?_
      refine lv_icmp_ge (tgt := 23) hx hb d_B_hasByte_16 (by decide) (fun c_16 => ?_) (fun c_16 => ?_)
      · refine lv_iconst (v := 0) hx hb d_B_hasByte_23 (by decide) ?_
        rw [hQ]; exact retRz hx hb hr hlocks rfl (by simp [hasF, c_1, c_9, c_16]) d_B_hasByte_24
      · refine lv_iconst (v := 1) hx hb d_B_hasByte_19 (by decide) ?_
        refine lv_goto (tgt := 24) hx hb d_B_hasByte_20 (by decide) ?_
        rw [hQ]; exact retRz hx hb hr hlocks rfl (by simp [hasF, c_1, c_9, c_16]) d_B_hasByte_24

abbrev w_B_read : List Cond := .code y_B_read b_B_read 2 (some .int) :: BIG
set_option maxHeartbeats 4000000 in
set_option maxRecDepth 100000 in
theorem c_B_read (l : Launch) (D : va_G) (cI cL cO : ClassId) (h0 : Nat) (q1 : Nat) (q2 : Nat) (q3 : Nat) (q4 : Nat) (q5 : Nat) (o : Fn) (f : Fn) (ee : Fn) (t : Fn) (b : Fn) (ic : Int32) (bc : Int32) (sa : Int32) (gn : Int32) (i : Int32) : CRi l y_B_read w_B_read ({ frames := 1, cells := 0, slots := 0, locals := 21 }) D cI cL cO [.ref h0, .int i] (wB cI h0 q1 q2 q3 q4 q5 o f ee t b ic bc sa gn) (rdF b bc i) := by
  refine ofR (cc := b_B_read) (maxL := 2) (ret := (some .int)) (by decide) rfl (Nat.le_of_ble_eq_true rfl) ?_
  intro p e s m below meth c ls Q hQ hx hb hr hlocks hts hown hml hP hK hl
  have hl : lv_has ls 2 [(0, .ref h0), (1, .int i)] := hl
  have hown : s.vm.findClass R_B = some m.cls := hown
  have ht : ∀ w ∈ BIG, w.before _ s = true := fun w h => hts w (List.mem_cons_of_mem _ h)
  refine lv_aload_n hx hb d_B_read_0 rfl (lv_at hl 0 rfl) ?_
  refine lv_iload_n hx hb d_B_read_1 rfl (lv_at hl 1 rfl) ?_
  refine goRi (va_runV (As := [.int i]) (rest := []) ⟨hx, hb, hml, hown, hts⟩ (c_B_hasByte l D cI cL cO h0 q1 q2 q3 q4 q5 o f ee t b ic bc sa gn i) (cwV 1 hts (gBIG (m4 k_ml_B_81 k_im_B_hasByte k_sel_B_hasByte k_ini_B) k_co_B_hasByte) rfl rfl rfl (by decide +kernel) ⟨Nat.le_of_ble_eq_true rfl, Nat.le_of_ble_eq_true rfl⟩) ⟨PR.bl, va_recv hK.1 hP (ci := 0) (q0 := 0) rfl rfl, PR.pre hP hK⟩ rfl rfl hl.1 rfl (lv_room (Nat.le_of_ble_eq_true rfl)) d_B_read_2 ⟨Nat.le_of_ble_eq_true rfl, Nat.le_of_ble_eq_true rfl⟩) ?_
  refine lv_if_eq (tgt := 17) hx hb d_B_read_5 (by decide) (fun c_5 => ?_) (fun c_5 => ?_)
  · refine lv_iconst (v := 0) hx hb d_B_read_17 (by decide) ?_
    rw [hQ]; exact retRi hx hb hr hlocks (by simp [rdF, c_5]) d_B_read_18
  · refine lv_aload_n hx hb d_B_read_8 rfl (lv_at hl 0 rfl) ?_
    refine va_get (ci := 0) (v := .ref q5) (C := R_B) (T := T_B) (N := 9) hx hb ht in_B hown hK.1 hP 0 rfl rfl 4 (by decide) (ht _ k_fl_B_24) (fun _ h9 => h9) rfl d_B_read_9 ?_
    refine lv_iload_n hx hb d_B_read_12 rfl (lv_at hl 1 rfl) ?_
    refine va_iald hx hb hK.1 hP 5 0 rfl rfl (hasF_in c_5) d_B_read_13 ?_
    refine lv_goto (tgt := 18) hx hb d_B_read_14 (by decide) ?_
    rw [hQ]; exact retRi hx hb hr hlocks (by simp [rdF, c_5]) d_B_read_18

abbrev w_B_readTwo : List Cond := .code y_B_readTwo b_B_readTwo 2 (some .int) :: BIG
set_option maxHeartbeats 4000000 in
set_option maxRecDepth 100000 in
theorem c_B_readTwo (l : Launch) (D : va_G) (cI cL cO : ClassId) (h0 : Nat) (q1 : Nat) (q2 : Nat) (q3 : Nat) (q4 : Nat) (q5 : Nat) (o : Fn) (f : Fn) (ee : Fn) (t : Fn) (b : Fn) (ic : Int32) (bc : Int32) (sa : Int32) (gn : Int32) (i : Int32) : CRi l y_B_readTwo w_B_readTwo ({ frames := 2, cells := 0, slots := 0, locals := 42 }) D cI cL cO [.ref h0, .int i] (wB cI h0 q1 q2 q3 q4 q5 o f ee t b ic bc sa gn) (rd2F b bc i) := by
  refine ofR (cc := b_B_readTwo) (maxL := 2) (ret := (some .int)) (by decide) rfl (Nat.le_of_ble_eq_true rfl) ?_
  intro p e s m below meth c ls Q hQ hx hb hr hlocks hts hown hml hP hK hl
  have hl : lv_has ls 2 [(0, .ref h0), (1, .int i)] := hl
  have hown : s.vm.findClass R_B = some m.cls := hown
  have ht : ∀ w ∈ BIG, w.before _ s = true := fun w h => hts w (List.mem_cons_of_mem _ h)
  refine lv_aload_n hx hb d_B_readTwo_0 rfl (lv_at hl 0 rfl) ?_
  refine lv_iload_n hx hb d_B_readTwo_1 rfl (lv_at hl 1 rfl) ?_
  refine goRi (va_runV (As := [.int i]) (rest := []) ⟨hx, hb, hml, hown, hts⟩ (c_B_read l D cI cL cO h0 q1 q2 q3 q4 q5 o f ee t b ic bc sa gn i) (cwV 1 hts (gBIG (m4 k_ml_B_84 k_im_B_read k_sel_B_read k_ini_B) k_co_B_read) rfl rfl rfl (by decide +kernel) ⟨Nat.le_of_ble_eq_true rfl, Nat.le_of_ble_eq_true rfl⟩) ⟨PR.bl, va_recv hK.1 hP (ci := 0) (q0 := 0) rfl rfl, PR.pre hP hK⟩ rfl rfl hl.1 rfl (lv_room (Nat.le_of_ble_eq_true rfl)) d_B_readTwo_2 ⟨Nat.le_of_ble_eq_true rfl, Nat.le_of_ble_eq_true rfl⟩) ?_
  refine lv_bipush (v := 8) hx hb d_B_readTwo_5 (by decide) ?_
  refine lv_ishl hx hb d_B_readTwo_7 ?_
  refine lv_aload_n hx hb d_B_readTwo_8 rfl (lv_at hl 0 rfl) ?_
  refine lv_iload_n hx hb d_B_readTwo_9 rfl (lv_at hl 1 rfl) ?_
  refine lv_iconst (v := 1) hx hb d_B_readTwo_10 (by decide) ?_
  refine lv_iadd hx hb d_B_readTwo_11 ?_
  refine goRi (va_runV (As := [.int (i + 1)]) (rest := [.int ((rdF b bc i) <<< ((8 : Int32) &&& 31))]) ⟨hx, hb, hml, hown, hts⟩ (c_B_read l D cI cL cO h0 q1 q2 q3 q4 q5 o f ee t b ic bc sa gn (i + 1)) (cwV 1 hts (gBIG (m4 k_ml_B_84 k_im_B_read k_sel_B_read k_ini_B) k_co_B_read) rfl rfl rfl (by decide +kernel) ⟨Nat.le_of_ble_eq_true rfl, Nat.le_of_ble_eq_true rfl⟩) ⟨PR.bl, va_recv hK.1 hP (ci := 0) (q0 := 0) rfl rfl, PR.pre hP hK⟩ rfl rfl hl.1 rfl (lv_room (Nat.le_of_ble_eq_true rfl)) d_B_readTwo_12 ⟨Nat.le_of_ble_eq_true rfl, Nat.le_of_ble_eq_true rfl⟩) ?_
  refine lv_ior hx hb d_B_readTwo_15 ?_
  rw [hQ]; exact retRi hx hb hr hlocks (by simp [rd2F]) d_B_readTwo_16

abbrev w_B_readFour : List Cond := .code y_B_readFour b_B_readFour 2 (some .int) :: BIG
set_option maxHeartbeats 4000000 in
set_option maxRecDepth 100000 in
theorem c_B_readFour (l : Launch) (D : va_G) (cI cL cO : ClassId) (h0 : Nat) (q1 : Nat) (q2 : Nat) (q3 : Nat) (q4 : Nat) (q5 : Nat) (o : Fn) (f : Fn) (ee : Fn) (t : Fn) (b : Fn) (ic : Int32) (bc : Int32) (sa : Int32) (gn : Int32) (i : Int32) : CRi l y_B_readFour w_B_readFour ({ frames := 3, cells := 0, slots := 0, locals := 63 }) D cI cL cO [.ref h0, .int i] (wB cI h0 q1 q2 q3 q4 q5 o f ee t b ic bc sa gn) (rd4F b bc i) := by
  refine ofR (cc := b_B_readFour) (maxL := 2) (ret := (some .int)) (by decide) rfl (Nat.le_of_ble_eq_true rfl) ?_
  intro p e s m below meth c ls Q hQ hx hb hr hlocks hts hown hml hP hK hl
  have hl : lv_has ls 2 [(0, .ref h0), (1, .int i)] := hl
  have hown : s.vm.findClass R_B = some m.cls := hown
  have ht : ∀ w ∈ BIG, w.before _ s = true := fun w h => hts w (List.mem_cons_of_mem _ h)
  refine lv_aload_n hx hb d_B_readFour_0 rfl (lv_at hl 0 rfl) ?_
  refine lv_iload_n hx hb d_B_readFour_1 rfl (lv_at hl 1 rfl) ?_
  refine goRi (va_runV (As := [.int i]) (rest := []) ⟨hx, hb, hml, hown, hts⟩ (c_B_readTwo l D cI cL cO h0 q1 q2 q3 q4 q5 o f ee t b ic bc sa gn i) (cwV 1 hts (gBIG (m4 k_ml_B_87 k_im_B_readTwo k_sel_B_readTwo k_ini_B) k_co_B_readTwo) rfl rfl rfl (by decide +kernel) ⟨Nat.le_of_ble_eq_true rfl, Nat.le_of_ble_eq_true rfl⟩) ⟨PR.bl, va_recv hK.1 hP (ci := 0) (q0 := 0) rfl rfl, PR.pre hP hK⟩ rfl rfl hl.1 rfl (lv_room (Nat.le_of_ble_eq_true rfl)) d_B_readFour_2 ⟨Nat.le_of_ble_eq_true rfl, Nat.le_of_ble_eq_true rfl⟩) ?_
  refine lv_bipush (v := 16) hx hb d_B_readFour_5 (by decide) ?_
  refine lv_ishl hx hb d_B_readFour_7 ?_
  refine lv_aload_n hx hb d_B_readFour_8 rfl (lv_at hl 0 rfl) ?_
  refine lv_iload_n hx hb d_B_readFour_9 rfl (lv_at hl 1 rfl) ?_
  refine lv_iconst (v := 2) hx hb d_B_readFour_10 (by decide) ?_
  refine lv_iadd hx hb d_B_readFour_11 ?_
  refine goRi (va_runV (As := [.int (i + 2)]) (rest := [.int ((rd2F b bc i) <<< ((16 : Int32) &&& 31))]) ⟨hx, hb, hml, hown, hts⟩ (c_B_readTwo l D cI cL cO h0 q1 q2 q3 q4 q5 o f ee t b ic bc sa gn (i + 2)) (cwV 1 hts (gBIG (m4 k_ml_B_87 k_im_B_readTwo k_sel_B_readTwo k_ini_B) k_co_B_readTwo) rfl rfl rfl (by decide +kernel) ⟨Nat.le_of_ble_eq_true rfl, Nat.le_of_ble_eq_true rfl⟩) ⟨PR.bl, va_recv hK.1 hP (ci := 0) (q0 := 0) rfl rfl, PR.pre hP hK⟩ rfl rfl hl.1 rfl (lv_room (Nat.le_of_ble_eq_true rfl)) d_B_readFour_12 ⟨Nat.le_of_ble_eq_true rfl, Nat.le_of_ble_eq_true rfl⟩) ?_
  refine lv_ior hx hb d_B_readFour_15 ?_
  rw [hQ]; exact retRi hx hb hr hlocks (by simp [rd4F]) d_B_readFour_16

abbrev w_B_startOf : List Cond := .code y_B_startOf b_B_startOf 3 (some .int) :: BIG
set_option maxHeartbeats 4000000 in
set_option maxRecDepth 100000 in
theorem c_B_startOf (l : Launch) (D : va_G) (cI cL cO : ClassId) (h0 : Nat) (q1 : Nat) (q2 : Nat) (q3 : Nat) (q4 : Nat) (q5 : Nat) (o : Fn) (f : Fn) (ee : Fn) (t : Fn) (b : Fn) (ic : Int32) (bc : Int32) (sa : Int32) (gn : Int32) (i : Int32) : CRi l y_B_startOf w_B_startOf ({ frames := 1, cells := 0, slots := 0, locals := 21 }) D cI cL cO [.ref h0, .int i] (wB cI h0 q1 q2 q3 q4 q5 o f ee t b ic bc sa gn) (startF t ic i) := by
  refine ofR (cc := b_B_startOf) (maxL := 3) (ret := (some .int)) (by decide) rfl (Nat.le_of_ble_eq_true rfl) ?_
  intro p e s m below meth c ls Q hQ hx hb hr hlocks hts hown hml hP hK hl
  have hl : lv_has ls 3 [(0, .ref h0), (1, .int i)] := hl
  have hown : s.vm.findClass R_B = some m.cls := hown
  have ht : ∀ w ∈ BIG, w.before _ s = true := fun w h => hts w (List.mem_cons_of_mem _ h)
  refine lv_iconst (v := 0) hx hb d_B_startOf_0 (by decide) ?_
  refine lv_iload_n hx hb d_B_startOf_1 rfl (lv_at hl 1 rfl) ?_
  refine lv_aload_n hx hb d_B_startOf_2 rfl (lv_at hl 0 rfl) ?_
  refine va_get (ci := 0) (v := .int ic) (C := R_B) (T := T_B) (N := 9) hx hb ht in_B hown hK.1 hP 0 rfl rfl 5 (by decide) (ht _ k_fl_B_34) (fun _ h9 => h9) rfl d_B_startOf_3 ?_
  refine w_min hx hb (hml.trans hl.1.symm) hown (ht _ k_ml_B_73) (ht _ k_st_Ma_min) (ht _ k_ini_Ma) (ht _ k_co_Ma_min) (Nat.le_of_ble_eq_true rfl) (Nat.le_of_ble_eq_true rfl) (Nat.zero_le _) (Nat.zero_le _) d_B_startOf_6 ?_
  refine w_max hx hb (hml.trans hl.1.symm) hown (ht _ k_ml_B_78) (ht _ k_st_Ma_max) (ht _ k_ini_Ma) (ht _ k_co_Ma_max) (Nat.le_of_ble_eq_true rfl) (Nat.le_of_ble_eq_true rfl) (Nat.zero_le _) (Nat.zero_le _) d_B_startOf_9 ?_
  refine lv_istore_n (lv' := [(2, .int (maxF 0 (minF i ic))), (0, .ref h0), (1, .int i)]) hx hb d_B_startOf_12 rfl hl (by decide) rfl (fun ls hl => ?_)
  refine lv_iload_n hx hb d_B_startOf_13 rfl (lv_at hl 0 rfl) ?_
  refine lv_aload_n hx hb d_B_startOf_14 rfl (lv_at hl 1 rfl) ?_
  refine va_get (ci := 0) (v := .ref q4) (C := R_B) (T := T_B) (N := 9) hx hb ht in_B hown hK.1 hP 0 rfl rfl 3 (by decide) (ht _ k_fl_B_21) (fun _ h9 => h9) rfl d_B_startOf_15 ?_
  refine va_alen (v := 61) hx hb hK.1 hP 4 0 rfl rfl rfl d_B_startOf_18 ?_
  refine lv_icmp_ge (tgt := 31) hx hb d_B_startOf_19 (by decide) (fun c_19 => ?_) (fun c_19 => ?_)
  · refine lv_iconst (v := 0) hx hb d_B_startOf_31 (by decide) ?_
    rw [hQ]; exact retRi hx hb hr hlocks (by simp [startF, stIx, c_19]) d_B_startOf_32
  · refine lv_aload_n hx hb d_B_startOf_22 rfl (lv_at hl 1 rfl) ?_
    refine va_get (ci := 0) (v := .ref q4) (C := R_B) (T := T_B) (N := 9) hx hb ht in_B hown hK.1 hP 0 rfl rfl 3 (by decide) (ht _ k_fl_B_21) (fun _ h9 => h9) rfl d_B_startOf_23 ?_
    refine lv_iload_n hx hb d_B_startOf_26 rfl (lv_at hl 0 rfl) ?_
    refine va_iald hx hb hK.1 hP 4 0 rfl rfl (in_of (N := 61) (by decide) (maxF0 _) c_19) d_B_startOf_27 ?_
    refine lv_goto (tgt := 32) hx hb d_B_startOf_28 (by decide) ?_
    rw [hQ]; exact retRi hx hb hr hlocks (by simp [startF, stIx, c_19]) d_B_startOf_32

abbrev w_B_canBeMade : List Cond := .code y_B_canBeMade b_B_canBeMade 1 (some .boolean) :: BIG
set_option maxHeartbeats 4000000 in
set_option maxRecDepth 100000 in
theorem c_B_canBeMade (l : Launch) (D : va_G) (cI cL cO : ClassId) (h0 : Nat) (q1 : Nat) (q2 : Nat) (q3 : Nat) (q4 : Nat) (q5 : Nat) (o : Fn) (f : Fn) (ee : Fn) (t : Fn) (b : Fn) (ic : Int32) (bc : Int32) (sa : Int32) (gn : Int32) : CRi l y_B_canBeMade w_B_canBeMade ({ frames := 2, cells := 0, slots := 0, locals := 43 }) D cI cL cO [.ref h0] (wB cI h0 q1 q2 q3 q4 q5 o f ee t b ic bc sa gn) (canF t ic) := by
  refine ofR (cc := b_B_canBeMade) (maxL := 1) (ret := (some .boolean)) (by decide) rfl (Nat.le_of_ble_eq_true rfl) ?_
  intro p e s m below meth c ls Q hQ hx hb hr hlocks hts hown hml hP hK hl
  have hl : lv_has ls 1 [(0, .ref h0)] := hl
  have hown : s.vm.findClass R_B = some m.cls := hown
  have ht : ∀ w ∈ BIG, w.before _ s = true := fun w h => hts w (List.mem_cons_of_mem _ h)
  refine lv_aload_n hx hb d_B_canBeMade_0 rfl (lv_at hl 0 rfl) ?_
  refine lv_aload_n hx hb d_B_canBeMade_1 rfl (lv_at hl 0 rfl) ?_
  refine va_get (ci := 0) (v := .int ic) (C := R_B) (T := T_B) (N := 9) hx hb ht in_B hown hK.1 hP 0 rfl rfl 5 (by decide) (ht _ k_fl_B_34) (fun _ h9 => h9) rfl d_B_canBeMade_2 ?_
  refine goRi (va_runV (As := [.int ic]) (rest := []) ⟨hx, hb, hml, hown, hts⟩ (c_B_startOf l D cI cL cO h0 q1 q2 q3 q4 q5 o f ee t b ic bc sa gn ic) (cwV 1 hts (gBIG (m4 k_ml_B_44 k_im_B_startOf k_sel_B_startOf k_ini_B) k_co_B_startOf) rfl rfl rfl (by decide +kernel) ⟨Nat.le_of_ble_eq_true rfl, Nat.le_of_ble_eq_true rfl⟩) ⟨PR.bl, va_recv hK.1 hP (ci := 0) (q0 := 0) rfl rfl, PR.pre hP hK⟩ rfl rfl hl.1 rfl (lv_room (Nat.le_of_ble_eq_true rfl)) d_B_canBeMade_5 ⟨Nat.le_of_ble_eq_true rfl, Nat.le_of_ble_eq_true rfl⟩) ?_
  refine lv_bipush (v := 10) hx hb d_B_canBeMade_8 (by decide) ?_
  refine goRi (va_runSN (As := [.int 10]) (rest := [.int (startF t ic ic)]) ⟨hx, hb, hml, hown, hts⟩ (c_M_lengthOf l D cI cL cO 10) ⟨va_cnB 1 hts (gB0 k_co_M_lengthOf) rfl rfl rfl (hK.2 _ n_ml_B_48) (ht _ k_ini_M) (by decide +kernel) ⟨Nat.le_of_ble_eq_true rfl, Nat.le_of_ble_eq_true rfl⟩, ht _ k_st_M_lengthOf, trivial⟩ ⟨PR.bl, PR.pre P_nil hK⟩ rfl rfl hl.1 rfl (lv_room (Nat.le_of_ble_eq_true rfl)) d_B_canBeMade_10 ⟨Nat.le_of_ble_eq_true rfl, Nat.le_of_ble_eq_true rfl⟩) ?_
  refine lv_iadd hx hb d_B_canBeMade_13 ?_
  refine lv_sipush (v := 300) hx hb d_B_canBeMade_14 (by decide) ?_
  refine lv_icmp_gt (tgt := 24) hx hb d_B_canBeMade_17 (by decide) (fun c_17 => ?_) (fun c_17 => ?_)
  · refine lv_iconst (v := 0) hx hb d_B_canBeMade_24 (by decide) ?_
    rw [hQ]; exact retRz hx hb hr hlocks rfl (by simp [canF, c_17]) d_B_canBeMade_25
  · refine lv_iconst (v := 1) hx hb d_B_canBeMade_20 (by decide) ?_
    refine lv_goto (tgt := 25) hx hb d_B_canBeMade_21 (by decide) ?_
    rw [hQ]; exact retRz hx hb hr hlocks rfl (by simp [canF, c_17]) d_B_canBeMade_25
