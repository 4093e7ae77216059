abbrev w_B_append : List Cond := .code y_B_append b_B_append 2 none :: BIG
set_option maxHeartbeats 4000000 in
set_option maxRecDepth 100000 in
theorem c_B_append (l : Launch) (D : va_G) (cI cL cO : ClassId) (h0 : Nat) (q1 : Nat) (q2 : Nat) (q3 : Nat) (q4 : Nat) (q5 : Nat) (o : Fn) (f : Fn) (ee : Fn) (t : Fn) (b : Fn) (ic : Int32) (bc : Int32) (sa : Int32) (gn : Int32) (fr : va_W) (v : Int32) (hbc : ¬ bc < 0) : CMv l y_B_append w_B_append ({ frames := 0, cells := 0, slots := 0, locals := 0 }) D cI cL cO [.ref h0, .int v] ((wB cI h0 q1 q2 q3 q4 q5 o f ee t b ic bc sa gn) ++ fr) (fun u : By => u = apF v (b, bc) ∧ ¬ u.2 < 0) (fun u : By => ((wB cI h0 q1 q2 q3 q4 q5 o f ee t u.1 ic u.2 sa gn) ++ fr)) 0 0 := by
  refine ofMv (cc := b_B_append) (maxL := 2) (ret := none) (by decide) rfl (Nat.le_of_ble_eq_true rfl) ?_
  intro p e s m below meth c A ls H Q hQ hx hb hr hlocks hin hts hown hml hP hK hD hS hA hl
  have hl : lv_has ls 2 [(0, .ref h0), (1, .int v)] := hl
  have hown : s.vm.findClass R_B = some m.cls := hown
  have ht : ∀ w ∈ BIG, w.before _ s = true := fun w h => hts w (List.mem_cons_of_mem _ h)
  refine lv_aload_n hx hb d_B_append_0 rfl (lv_at hl 0 rfl) ?_
  refine va_get (ci := 0) (v := .int bc) (C := R_B) (T := T_B) (N := 9) hx hb ht in_B hown hK.1 hP 0 rfl rfl 6 (by decide) (ht _ k_fl_B_41) (fun _ h9 => h9) rfl d_B_append_1 ?_
  refine lv_sipush (v := 300) hx hb d_B_append_4 (by decide) ?_
  refine lv_icmp_ge (tgt := 34) hx hb d_B_append_7 (by decide) (fun c_7 => ?_) (fun c_7 => ?_)
  · rw [hQ]; exact retMv (w1 := fun u : By => ((wB cI h0 q1 q2 q3 q4 q5 o f ee t u.1 ic u.2 sa gn) ++ fr)) (b, bc) hx hb hr hlocks hP hD hS ⟨by simp [apF, c_7], hbc⟩ d_B_append_34
  · refine lv_aload_n hx hb d_B_append_10 rfl (lv_at hl 0 rfl) ?_
    refine va_get (ci := 0) (v := .ref q5) (C := R_B) (T := T_B) (N := 9) hx hb ht in_B hown hK.1 hP 0 rfl rfl 4 (by decide) (ht _ k_fl_B_24) (fun _ h9 => h9) rfl d_B_append_11 ?_
    refine lv_aload_n hx hb d_B_append_14 rfl (lv_at hl 0 rfl) ?_
    refine va_get (ci := 0) (v := .int bc) (C := R_B) (T := T_B) (N := 9) hx hb ht in_B hown hK.1 hP 0 rfl rfl 6 (by decide) (ht _ k_fl_B_41) (fun _ h9 => h9) rfl d_B_append_15 ?_
    refine lv_iload_n hx hb d_B_append_18 rfl (lv_at hl 1 rfl) ?_
    refine lv_sipush (v := 255) hx hb d_B_append_19 (by decide) ?_
    refine lv_iand hx hb d_B_append_22 ?_
    refine va_iast hx hb hK.1 hP hD hS 5 0 rfl rfl (in_of (N := 300) (by decide) hbc c_7) d_B_append_23 (fun H locs hP hD hS => ?_)
    have hP : va_P D vwCl ((wB cI h0 q1 q2 q3 q4 q5 o f ee t (upd b bc.toNatClampNeg (v &&& 255)) ic bc sa gn) ++ fr) H := hP
    have hD : va_D A ((wB cI h0 q1 q2 q3 q4 q5 o f ee t (upd b bc.toNatClampNeg (v &&& 255)) ic bc sa gn) ++ fr) := hD
    refine lv_aload_n hx hb d_B_append_24 rfl (lv_at hl 0 rfl) ?_
    refine lv_dup hx hb d_B_append_25 rfl ?_
    refine va_get (ci := 0) (v := .int bc) (C := R_B) (T := T_B) (N := 9) hx hb ht in_B hown hK.1 hP 0 rfl rfl 6 (by decide) (ht _ k_fl_B_41) (fun _ h9 => h9) rfl d_B_append_26 ?_
    refine lv_iconst (v := 1) hx hb d_B_append_29 (by decide) ?_
    refine lv_iadd hx hb d_B_append_30 ?_
    refine va_put (ci := 0) (v := .int (bc + 1)) (ty := .int) (C := R_B) (T := T_B) (N := 9) hx hb ht in_B t_B t_B_ok n_B hown hK.1 hP hD hS 0 rfl rfl 6 (by decide) (ht _ k_fl_B_41) (fun _ h9 => h9) rfl (by decide +kernel) rfl rfl (Nat.le_of_ble_eq_true rfl) d_B_append_31 (fun H locs hP hD hS => ?_)
    have hP : va_P D vwCl ((wB cI h0 q1 q2 q3 q4 q5 o f ee t (upd b bc.toNatClampNeg (v &&& 255)) ic (bc + 1) sa gn) ++ fr) H := hP
    have hD : va_D A ((wB cI h0 q1 q2 q3 q4 q5 o f ee t (upd b bc.toNatClampNeg (v &&& 255)) ic (bc + 1) sa gn) ++ fr) := hD
    rw [hQ]; exact retMv (w1 := fun u : By => ((wB cI h0 q1 q2 q3 q4 q5 o f ee t u.1 ic u.2 sa gn) ++ fr)) (upd b bc.toNatClampNeg (v &&& 255), bc + 1) hx hb hr hlocks hP hD hS ⟨by simp [apF, c_7], nn1 hbc c_7⟩ d_B_append_34

abbrev w_B_writeWithRegister : List Cond := .code y_B_writeWithRegister b_B_writeWithRegister 3 none :: BIG
set_option maxHeartbeats 4000000 in
set_option maxRecDepth 100000 in
theorem c_B_writeWithRegister (l : Launch) (D : va_G) (cI cL cO : ClassId) (h0 : Nat) (q1 : Nat) (q2 : Nat) (q3 : Nat) (q4 : Nat) (q5 : Nat) (o : Fn) (f : Fn) (ee : Fn) (t : Fn) (b : Fn) (ic : Int32) (bc : Int32) (sa : Int32) (gn : Int32) (fr : va_W) (cd : Int32) (rr : Int32) (hbc : ¬ bc < 0) : CMv l y_B_writeWithRegister w_B_writeWithRegister ({ frames := 1, cells := 0, slots := 0, locals := 21 }) D cI cL cO [.ref h0, .int cd, .int rr] ((wB cI h0 q1 q2 q3 q4 q5 o f ee t b ic bc sa gn) ++ fr) (fun u : By => u = wrR cd rr (b, bc) ∧ ¬ u.2 < 0) (fun u : By => ((wB cI h0 q1 q2 q3 q4 q5 o f ee t u.1 ic u.2 sa gn) ++ fr)) 0 0 := by
  refine ofMv (cc := b_B_writeWithRegister) (maxL := 3) (ret := none) (by decide) rfl (Nat.le_of_ble_eq_true rfl) ?_
  intro p e s m below meth c A ls H Q hQ hx hb hr hlocks hin hts hown hml hP hK hD hS hA hl
  have hl : lv_has ls 3 [(0, .ref h0), (1, .int cd), (2, .int rr)] := hl
  have hown : s.vm.findClass R_B = some m.cls := hown
  have ht : ∀ w ∈ BIG, w.before _ s = true := fun w h => hts w (List.mem_cons_of_mem _ h)
  refine lv_aload_n hx hb d_B_writeWithRegister_0 rfl (lv_at hl 0 rfl) ?_
  refine lv_iload_n hx hb d_B_writeWithRegister_1 rfl (lv_at hl 1 rfl) ?_
  refine goMv (va_runV (As := [.int cd]) (rest := []) ⟨hx, hb, hml, hown, hts⟩ (c_B_append l D cI cL cO h0 q1 q2 q3 q4 q5 o f ee t b ic bc sa gn fr cd hbc H.size) (cwV 1 hts (gBIG (m4 k_ml_B_55 k_im_B_append k_sel_B_append k_ini_B) k_co_B_append) rfl rfl rfl (by decide +kernel) ⟨Nat.le_of_ble_eq_true rfl, Nat.le_of_ble_eq_true rfl⟩) ⟨PM.bl, va_recv hK.1 hP (ci := 0) (q0 := 0) rfl rfl, PM.pre hP hD hK⟩ rfl rfl hl.1 rfl (lv_room (Nat.le_of_ble_eq_true rfl)) d_B_writeWithRegister_2 ⟨Nat.le_of_ble_eq_true rfl, Nat.le_of_ble_eq_true rfl⟩) hD hS hA (fun u H locs hw hP hD hS => ?_)
  obtain ⟨b_2, bc_2⟩ := u
  have e_2 : (b_2, bc_2) = apF cd (b, bc) ∧ ¬ bc_2 < 0 := hw
  have hP : va_P D vwCl ((wB cI h0 q1 q2 q3 q4 q5 o f ee t b_2 ic bc_2 sa gn) ++ fr) H := hP
  have hD : va_D A ((wB cI h0 q1 q2 q3 q4 q5 o f ee t b_2 ic bc_2 sa gn) ++ fr) := hD
  refine lv_aload_n hx hb d_B_writeWithRegister_5 rfl (lv_at hl 0 rfl) ?_
  refine lv_iload_n hx hb d_B_writeWithRegister_6 rfl (lv_at hl 2 rfl) ?_
  refine goMv (va_runV (As := [.int rr]) (rest := []) ⟨hx, hb, hml, hown, hts⟩ (c_B_append l D cI cL cO h0 q1 q2 q3 q4 q5 o f ee t b_2 ic bc_2 sa gn fr rr e_2.2 H.size) (cwV 1 hts (gBIG (m4 k_ml_B_55 k_im_B_append k_sel_B_append k_ini_B) k_co_B_append) rfl rfl rfl (by decide +kernel) ⟨Nat.le_of_ble_eq_true rfl, Nat.le_of_ble_eq_true rfl⟩) ⟨PM.bl, va_recv hK.1 hP (ci := 0) (q0 := 0) rfl rfl, PM.pre hP hD hK⟩ rfl rfl hl.1 rfl (lv_room (Nat.le_of_ble_eq_true rfl)) d_B_writeWithRegister_7 ⟨Nat.le_of_ble_eq_true rfl, Nat.le_of_ble_eq_true rfl⟩) hD hS hA (fun u H locs hw hP hD hS => ?_)
  obtain ⟨b_7, bc_7⟩ := u
  have e_7 : (b_7, bc_7) = apF rr (b_2, bc_2) ∧ ¬ bc_7 < 0 := hw
  have hP : va_P D vwCl ((wB cI h0 q1 q2 q3 q4 q5 o f ee t b_7 ic bc_7 sa gn) ++ fr) H := hP
  have hD : va_D A ((wB cI h0 q1 q2 q3 q4 q5 o f ee t b_7 ic bc_7 sa gn) ++ fr) := hD
  rw [hQ]; exact retMv (w1 := fun u : By => ((wB cI h0 q1 q2 q3 q4 q5 o f ee t u.1 ic u.2 sa gn) ++ fr)) (b_7, bc_7) hx hb hr hlocks hP hD hS ⟨by rw [e_7.1, e_2.1]; simp [wrR], e_7.2⟩ d_B_writeWithRegister_10

abbrev w_B_writePush : List Cond := .code y_B_writePush b_B_writePush 2 none :: BIG
set_option maxHeartbeats 4000000 in
set_option maxRecDepth 100000 in
theorem c_B_writePush (l : Launch) (D : va_G) (cI cL cO : ClassId) (h0 : Nat) (q1 : Nat) (q2 : Nat) (q3 : Nat) (q4 : Nat) (q5 : Nat) (o : Fn) (f : Fn) (ee : Fn) (t : Fn) (b : Fn) (ic : Int32) (bc : Int32) (sa : Int32) (gn : Int32) (fr : va_W) (n : Int32) (hbc : ¬ bc < 0) : CMv l y_B_writePush w_B_writePush ({ frames := 1, cells := 0, slots := 0, locals := 21 }) D cI cL cO [.ref h0, .int n] ((wB cI h0 q1 q2 q3 q4 q5 o f ee t b ic bc sa gn) ++ fr) (fun u : By => u = wrP n (b, bc) ∧ ¬ u.2 < 0) (fun u : By => ((wB cI h0 q1 q2 q3 q4 q5 o f ee t u.1 ic u.2 sa gn) ++ fr)) 0 0 := by
  refine ofMv (cc := b_B_writePush) (maxL := 2) (ret := none) (by decide) rfl (Nat.le_of_ble_eq_true rfl) ?_
  intro p e s m below meth c A ls H Q hQ hx hb hr hlocks hin hts hown hml hP hK hD hS hA hl
  have hl : lv_has ls 2 [(0, .ref h0), (1, .int n)] := hl
  have hown : s.vm.findClass R_B = some m.cls := hown
  have ht : ∀ w ∈ BIG, w.before _ s = true := fun w h => hts w (List.mem_cons_of_mem _ h)
  refine lv_iload_n hx hb d_B_writePush_0 rfl (lv_at hl 1 rfl) ?_
  refine goRi (va_runS (As := [.int n]) (rest := []) ⟨hx, hb, hml, hown, hts⟩ (c_B_fitsOneByte l D cI cL cO n) (cwS 1 hts (gBIG (m3 k_ml_B_69 k_st_B_fitsOneByte k_ini_B) k_co_B_fitsOneByte) rfl rfl rfl (by decide +kernel) ⟨Nat.le_of_ble_eq_true rfl, Nat.le_of_ble_eq_true rfl⟩) ⟨PR.bl, PR.pre P_nil hK⟩ rfl rfl hl.1 rfl (lv_room (Nat.le_of_ble_eq_true rfl)) d_B_writePush_1 ⟨Nat.le_of_ble_eq_true rfl, Nat.le_of_ble_eq_true rfl⟩) ?_
  refine lv_if_eq (tgt := 19) hx hb d_B_writePush_4 (by decide) (fun c_4 => ?_) (fun c_4 => ?_)
  · refine lv_aload_n hx hb d_B_writePush_19 rfl (lv_at hl 0 rfl) ?_
    refine lv_iconst (v := 3) hx hb d_B_writePush_20 (by decide) ?_
    refine goMv (va_runV (As := [.int 3]) (rest := []) ⟨hx, hb, hml, hown, hts⟩ (c_B_append l D cI cL cO h0 q1 q2 q3 q4 q5 o f ee t b ic bc sa gn fr 3 hbc H.size) (cwV 1 hts (gBIG (m4 k_ml_B_55 k_im_B_append k_sel_B_append k_ini_B) k_co_B_append) rfl rfl rfl (by decide +kernel) ⟨Nat.le_of_ble_eq_true rfl, Nat.le_of_ble_eq_true rfl⟩) ⟨PM.bl, va_recv hK.1 hP (ci := 0) (q0 := 0) rfl rfl, PM.pre hP hD hK⟩ rfl rfl hl.1 rfl (lv_room (Nat.le_of_ble_eq_true rfl)) d_B_writePush_21 ⟨Nat.le_of_ble_eq_true rfl, Nat.le_of_ble_eq_true rfl⟩) hD hS hA (fun u H locs hw hP hD hS => ?_)
    obtain ⟨b_21, bc_21⟩ := u
    have e_21 : (b_21, bc_21) = apF 3 (b, bc) ∧ ¬ bc_21 < 0 := hw
    have hP : va_P D vwCl ((wB cI h0 q1 q2 q3 q4 q5 o f ee t b_21 ic bc_21 sa gn) ++ fr) H := hP
    have hD : va_D A ((wB cI h0 q1 q2 q3 q4 q5 o f ee t b_21 ic bc_21 sa gn) ++ fr) := hD
    refine lv_aload_n hx hb d_B_writePush_24 rfl (lv_at hl 0 rfl) ?_
    refine lv_iload_n hx hb d_B_writePush_25 rfl (lv_at hl 1 rfl) ?_
    refine lv_bipush (v := 24) hx hb d_B_writePush_26 (by decide) ?_
    refine lv_ishr hx hb d_B_writePush_28 ?_
    refine goMv (va_runV (As := [.int (n >>> ((24 : Int32) &&& 31))]) (rest := []) ⟨hx, hb, hml, hown, hts⟩ (c_B_append l D cI cL cO h0 q1 q2 q3 q4 q5 o f ee t b_21 ic bc_21 sa gn fr (n >>> ((24 : Int32) &&& 31)) e_21.2 H.size) (cwV 1 hts (gBIG (m4 k_ml_B_55 k_im_B_append k_sel_B_append k_ini_B) k_co_B_append) rfl rfl rfl (by decide +kernel) ⟨Nat.le_of_ble_eq_true rfl, Nat.le_of_ble_eq_true rfl⟩) ⟨PM.bl, va_recv hK.1 hP (ci := 0) (q0 := 0) rfl rfl, PM.pre hP hD hK⟩ rfl rfl hl.1 rfl (lv_room (Nat.le_of_ble_eq_true rfl)) d_B_writePush_29 ⟨Nat.le_of_ble_eq_true rfl, Nat.le_of_ble_eq_true rfl⟩) hD hS hA (fun u H locs hw hP hD hS => ?_)
    obtain ⟨b_29, bc_29⟩ := u
    have e_29 : (b_29, bc_29) = apF (n >>> ((24 : Int32) &&& 31)) (b_21, bc_21) ∧ ¬ bc_29 < 0 := hw
    have hP : va_P D vwCl ((wB cI h0 q1 q2 q3 q4 q5 o f ee t b_29 ic bc_29 sa gn) ++ fr) H := hP
    have hD : va_D A ((wB cI h0 q1 q2 q3 q4 q5 o f ee t b_29 ic bc_29 sa gn) ++ fr) := hD
    refine lv_aload_n hx hb d_B_writePush_32 rfl (lv_at hl 0 rfl) ?_
    refine lv_iload_n hx hb d_B_writePush_33 rfl (lv_at hl 1 rfl) ?_
    refine lv_bipush (v := 16) hx hb d_B_writePush_34 (by decide) ?_
    refine lv_ishr hx hb d_B_writePush_36 ?_
    refine goMv (va_runV (As := [.int (n >>> ((16 : Int32) &&& 31))]) (rest := []) ⟨hx, hb, hml, hown, hts⟩ (c_B_append l D cI cL cO h0 q1 q2 q3 q4 q5 o f ee t b_29 ic bc_29 sa gn fr (n >>> ((16 : Int32) &&& 31)) e_29.2 H.size) (cwV 1 hts (gBIG (m4 k_ml_B_55 k_im_B_append k_sel_B_append k_ini_B) k_co_B_append) rfl rfl rfl (by decide +kernel) ⟨Nat.le_of_ble_eq_true rfl, Nat.le_of_ble_eq_true rfl⟩) ⟨PM.bl, va_recv hK.1 hP (ci := 0) (q0 := 0) rfl rfl, PM.pre hP hD hK⟩ rfl rfl hl.1 rfl (lv_room (Nat.le_of_ble_eq_true rfl)) d_B_writePush_37 ⟨Nat.le_of_ble_eq_true rfl, Nat.le_of_ble_eq_true rfl⟩) hD hS hA (fun u H locs hw hP hD hS => ?_)
    obtain ⟨b_37, bc_37⟩ := u
    have e_37 : (b_37, bc_37) = apF (n >>> ((16 : Int32) &&& 31)) (b_29, bc_29) ∧ ¬ bc_37 < 0 := hw
    have hP : va_P D vwCl ((wB cI h0 q1 q2 q3 q4 q5 o f ee t b_37 ic bc_37 sa gn) ++ fr) H := hP
    have hD : va_D A ((wB cI h0 q1 q2 q3 q4 q5 o f ee t b_37 ic bc_37 sa gn) ++ fr) := hD
    refine lv_aload_n hx hb d_B_writePush_40 rfl (lv_at hl 0 rfl) ?_
    refine lv_iload_n hx hb d_B_writePush_41 rfl (lv_at hl 1 rfl) ?_
    refine lv_bipush (v := 8) hx hb d_B_writePush_42 (by decide) ?_
    refine lv_ishr hx hb d_B_writePush_44 ?_
    refine goMv (va_runV (As := [.int (n >>> ((8 : Int32) &&& 31))]) (rest := []) ⟨hx, hb, hml, hown, hts⟩ (c_B_append l D cI cL cO h0 q1 q2 q3 q4 q5 o f ee t b_37 ic bc_37 sa gn fr (n >>> ((8 : Int32) &&& 31)) e_37.2 H.size) (cwV 1 hts (gBIG (m4 k_ml_B_55 k_im_B_append k_sel_B_append k_ini_B) k_co_B_append) rfl rfl rfl (by decide +kernel) ⟨Nat.le_of_ble_eq_true rfl, Nat.le_of_ble_eq_true rfl⟩) ⟨PM.bl, va_recv hK.1 hP (ci := 0) (q0 := 0) rfl rfl, PM.pre hP hD hK⟩ rfl rfl hl.1 rfl (lv_room (Nat.le_of_ble_eq_true rfl)) d_B_writePush_45 ⟨Nat.le_of_ble_eq_true rfl, Nat.le_of_ble_eq_true rfl⟩) hD hS hA (fun u H locs hw hP hD hS => ?_)
    obtain ⟨b_45, bc_45⟩ := u
    have e_45 : (b_45, bc_45) = apF (n >>> ((8 : Int32) &&& 31)) (b_37, bc_37) ∧ ¬ bc_45 < 0 := hw
    have hP : va_P D vwCl ((wB cI h0 q1 q2 q3 q4 q5 o f ee t b_45 ic bc_45 sa gn) ++ fr) H := hP
    have hD : va_D A ((wB cI h0 q1 q2 q3 q4 q5 o f ee t b_45 ic bc_45 sa gn) ++ fr) := hD
    refine lv_aload_n hx hb d_B_writePush_48 rfl (lv_at hl 0 rfl) ?_
    refine lv_iload_n hx hb d_B_writePush_49 rfl (lv_at hl 1 rfl) ?_
    refine goMv (va_runV (As := [.int n]) (rest := []) ⟨hx, hb, hml, hown, hts⟩ (c_B_append l D cI cL cO h0 q1 q2 q3 q4 q5 o f ee t b_45 ic bc_45 sa gn fr n e_45.2 H.size) (cwV 1 hts (gBIG (m4 k_ml_B_55 k_im_B_append k_sel_B_append k_ini_B) k_co_B_append) rfl rfl rfl (by decide +kernel) ⟨Nat.le_of_ble_eq_true rfl, Nat.le_of_ble_eq_true rfl⟩) ⟨PM.bl, va_recv hK.1 hP (ci := 0) (q0 := 0) rfl rfl, PM.pre hP hD hK⟩ rfl rfl hl.1 rfl (lv_room (Nat.le_of_ble_eq_true rfl)) d_B_writePush_50 ⟨Nat.le_of_ble_eq_true rfl, Nat.le_of_ble_eq_true rfl⟩) hD hS hA (fun u H locs hw hP hD hS => ?_)
    obtain ⟨b_50, bc_50⟩ := u
    have e_50 : (b_50, bc_50) = apF n (b_45, bc_45) ∧ ¬ bc_50 < 0 := hw
    have hP : va_P D vwCl ((wB cI h0 q1 q2 q3 q4 q5 o f ee t b_50 ic bc_50 sa gn) ++ fr) H := hP
    have hD : va_D A ((wB cI h0 q1 q2 q3 q4 q5 o f ee t b_50 ic bc_50 sa gn) ++ fr) := hD
    rw [hQ]; exact retMv (w1 := fun u : By => ((wB cI h0 q1 q2 q3 q4 q5 o f ee t u.1 ic u.2 sa gn) ++ fr)) (b_50, bc_50) hx hb hr hlocks hP hD hS ⟨by rw [e_50.1, e_45.1, e_37.1, e_29.1, e_21.1]; simp [wrP, c_4], e_50.2⟩ d_B_writePush_53
  · refine lv_aload_n hx hb d_B_writePush_7 rfl (lv_at hl 0 rfl) ?_
    refine lv_bipush (v := 16) hx hb d_B_writePush_8 (by decide) ?_
    refine goMv (va_runV (As := [.int 16]) (rest := []) ⟨hx, hb, hml, hown, hts⟩ (c_B_append l D cI cL cO h0 q1 q2 q3 q4 q5 o f ee t b ic bc sa gn fr 16 hbc H.size) (cwV 1 hts (gBIG (m4 k_ml_B_55 k_im_B_append k_sel_B_append k_ini_B) k_co_B_append) rfl rfl rfl (by decide +kernel) ⟨Nat.le_of_ble_eq_true rfl, Nat.le_of_ble_eq_true rfl⟩) ⟨PM.bl, va_recv hK.1 hP (ci := 0) (q0 := 0) rfl rfl, PM.pre hP hD hK⟩ rfl rfl hl.1 rfl (lv_room (Nat.le_of_ble_eq_true rfl)) d_B_writePush_10 ⟨Nat.le_of_ble_eq_true rfl, Nat.le_of_ble_eq_true rfl⟩) hD hS hA (fun u H locs hw hP hD hS => ?_)
    obtain ⟨b_10, bc_10⟩ := u
    have e_10 : (b_10, bc_10) = apF 16 (b, bc) ∧ ¬ bc_10 < 0 := hw
    have hP : va_P D vwCl ((wB cI h0 q1 q2 q3 q4 q5 o f ee t b_10 ic bc_10 sa gn) ++ fr) H := hP
    have hD : va_D A ((wB cI h0 q1 q2 q3 q4 q5 o f ee t b_10 ic bc_10 sa gn) ++ fr) := hD
    refine lv_aload_n hx hb d_B_writePush_13 rfl (lv_at hl 0 rfl) ?_
    refine lv_iload_n hx hb d_B_writePush_14 rfl (lv_at hl 1 rfl) ?_
    refine goMv (va_runV (As := [.int n]) (rest := []) ⟨hx, hb, hml, hown, hts⟩ (c_B_append l D cI cL cO h0 q1 q2 q3 q4 q5 o f ee t b_10 ic bc_10 sa gn fr n e_10.2 H.size) (cwV 1 hts (gBIG (m4 k_ml_B_55 k_im_B_append k_sel_B_append k_ini_B) k_co_B_append) rfl rfl rfl (by decide +kernel) ⟨Nat.le_of_ble_eq_true rfl, Nat.le_of_ble_eq_true rfl⟩) ⟨PM.bl, va_recv hK.1 hP (ci := 0) (q0 := 0) rfl rfl, PM.pre hP hD hK⟩ rfl rfl hl.1 rfl (lv_room (Nat.le_of_ble_eq_true rfl)) d_B_writePush_15 ⟨Nat.le_of_ble_eq_true rfl, Nat.le_of_ble_eq_true rfl⟩) hD hS hA (fun u H locs hw hP hD hS => ?_)
    obtain ⟨b_15, bc_15⟩ := u
    have e_15 : (b_15, bc_15) = apF n (b_10, bc_10) ∧ ¬ bc_15 < 0 := hw
    have hP : va_P D vwCl ((wB cI h0 q1 q2 q3 q4 q5 o f ee t b_15 ic bc_15 sa gn) ++ fr) H := hP
    have hD : va_D A ((wB cI h0 q1 q2 q3 q4 q5 o f ee t b_15 ic bc_15 sa gn) ++ fr) := hD
    rw [hQ]; exact retMv (w1 := fun u : By => ((wB cI h0 q1 q2 q3 q4 q5 o f ee t u.1 ic u.2 sa gn) ++ fr)) (b_15, bc_15) hx hb hr hlocks hP hD hS ⟨by rw [e_15.1, e_10.1]; simp [wrP, c_4], e_15.2⟩ d_B_writePush_18

abbrev w_B_writeBranch : List Cond := .code y_B_writeBranch b_B_writeBranch 2 none :: BIG
set_option maxHeartbeats 4000000 in
set_option maxRecDepth 100000 in
theorem c_B_writeBranch (l : Launch) (D : va_G) (cI cL cO : ClassId) (h0 : Nat) (q1 : Nat) (q2 : Nat) (q3 : Nat) (q4 : Nat) (q5 : Nat) (o : Fn) (f : Fn) (ee : Fn) (t : Fn) (b : Fn) (ic : Int32) (bc : Int32) (sa : Int32) (gn : Int32) (fr : va_W) (gl : Int32) (hbc : ¬ bc < 0) : CMv l y_B_writeBranch w_B_writeBranch ({ frames := 1, cells := 0, slots := 0, locals := 21 }) D cI cL cO [.ref h0, .int gl] ((wB cI h0 q1 q2 q3 q4 q5 o f ee t b ic bc sa gn) ++ fr) (fun u : By => u = wrB gl (b, bc) ∧ ¬ u.2 < 0) (fun u : By => ((wB cI h0 q1 q2 q3 q4 q5 o f ee t u.1 ic u.2 sa gn) ++ fr)) 0 0 := by
  refine ofMv (cc := b_B_writeBranch) (maxL := 2) (ret := none) (by decide) rfl (Nat.le_of_ble_eq_true rfl) ?_
  intro p e s m below meth c A ls H Q hQ hx hb hr hlocks hin hts hown hml hP hK hD hS hA hl
  have hl : lv_has ls 2 [(0, .ref h0), (1, .int gl)] := hl
  have hown : s.vm.findClass R_B = some m.cls := hown
  have ht : ∀ w ∈ BIG, w.before _ s = true := fun w h => hts w (List.mem_cons_of_mem _ h)
  refine lv_aload_n hx hb d_B_writeBranch_0 rfl (lv_at hl 0 rfl) ?_
  refine lv_bipush (v := 9) hx hb d_B_writeBranch_1 (by decide) ?_
  refine goMv (va_runV (As := [.int 9]) (rest := []) ⟨hx, hb, hml, hown, hts⟩ (c_B_append l D cI cL cO h0 q1 q2 q3 q4 q5 o f ee t b ic bc sa gn fr 9 hbc H.size) (cwV 1 hts (gBIG (m4 k_ml_B_55 k_im_B_append k_sel_B_append k_ini_B) k_co_B_append) rfl rfl rfl (by decide +kernel) ⟨Nat.le_of_ble_eq_true rfl, Nat.le_of_ble_eq_true rfl⟩) ⟨PM.bl, va_recv hK.1 hP (ci := 0) (q0 := 0) rfl rfl, PM.pre hP hD hK⟩ rfl rfl hl.1 rfl (lv_room (Nat.le_of_ble_eq_true rfl)) d_B_writeBranch_3 ⟨Nat.le_of_ble_eq_true rfl, Nat.le_of_ble_eq_true rfl⟩) hD hS hA (fun u H locs hw hP hD hS => ?_)
  obtain ⟨b_3, bc_3⟩ := u
  have e_3 : (b_3, bc_3) = apF 9 (b, bc) ∧ ¬ bc_3 < 0 := hw
  have hP : va_P D vwCl ((wB cI h0 q1 q2 q3 q4 q5 o f ee t b_3 ic bc_3 sa gn) ++ fr) H := hP
  have hD : va_D A ((wB cI h0 q1 q2 q3 q4 q5 o f ee t b_3 ic bc_3 sa gn) ++ fr) := hD
  refine lv_aload_n hx hb d_B_writeBranch_6 rfl (lv_at hl 0 rfl) ?_
  refine lv_iload_n hx hb d_B_writeBranch_7 rfl (lv_at hl 1 rfl) ?_
  refine lv_bipush (v := 8) hx hb d_B_writeBranch_8 (by decide) ?_
  refine lv_ishr hx hb d_B_writeBranch_10 ?_
  refine goMv (va_runV (As := [.int (gl >>> ((8 : Int32) &&& 31))]) (rest := []) ⟨hx, hb, hml, hown, hts⟩ (c_B_append l D cI cL cO h0 q1 q2 q3 q4 q5 o f ee t b_3 ic bc_3 sa gn fr (gl >>> ((8 : Int32) &&& 31)) e_3.2 H.size) (cwV 1 hts (gBIG (m4 k_ml_B_55 k_im_B_append k_sel_B_append k_ini_B) k_co_B_append) rfl rfl rfl (by decide +kernel) ⟨Nat.le_of_ble_eq_true rfl, Nat.le_of_ble_eq_true rfl⟩) ⟨PM.bl, va_recv hK.1 hP (ci := 0) (q0 := 0) rfl rfl, PM.pre hP hD hK⟩ rfl rfl hl.1 rfl (lv_room (Nat.le_of_ble_eq_true rfl)) d_B_writeBranch_11 ⟨Nat.le_of_ble_eq_true rfl, Nat.le_of_ble_eq_true rfl⟩) hD hS hA (fun u H locs hw hP hD hS => ?_)
  obtain ⟨b_11, bc_11⟩ := u
  have e_11 : (b_11, bc_11) = apF (gl >>> ((8 : Int32) &&& 31)) (b_3, bc_3) ∧ ¬ bc_11 < 0 := hw
  have hP : va_P D vwCl ((wB cI h0 q1 q2 q3 q4 q5 o f ee t b_11 ic bc_11 sa gn) ++ fr) H := hP
  have hD : va_D A ((wB cI h0 q1 q2 q3 q4 q5 o f ee t b_11 ic bc_11 sa gn) ++ fr) := hD
  refine lv_aload_n hx hb d_B_writeBranch_14 rfl (lv_at hl 0 rfl) ?_
  refine lv_iload_n hx hb d_B_writeBranch_15 rfl (lv_at hl 1 rfl) ?_
  refine goMv (va_runV (As := [.int gl]) (rest := []) ⟨hx, hb, hml, hown, hts⟩ (c_B_append l D cI cL cO h0 q1 q2 q3 q4 q5 o f ee t b_11 ic bc_11 sa gn fr gl e_11.2 H.size) (cwV 1 hts (gBIG (m4 k_ml_B_55 k_im_B_append k_sel_B_append k_ini_B) k_co_B_append) rfl rfl rfl (by decide +kernel) ⟨Nat.le_of_ble_eq_true rfl, Nat.le_of_ble_eq_true rfl⟩) ⟨PM.bl, va_recv hK.1 hP (ci := 0) (q0 := 0) rfl rfl, PM.pre hP hD hK⟩ rfl rfl hl.1 rfl (lv_room (Nat.le_of_ble_eq_true rfl)) d_B_writeBranch_16 ⟨Nat.le_of_ble_eq_true rfl, Nat.le_of_ble_eq_true rfl⟩) hD hS hA (fun u H locs hw hP hD hS => ?_)
  obtain ⟨b_16, bc_16⟩ := u
  have e_16 : (b_16, bc_16) = apF gl (b_11, bc_11) ∧ ¬ bc_16 < 0 := hw
  have hP : va_P D vwCl ((wB cI h0 q1 q2 q3 q4 q5 o f ee t b_16 ic bc_16 sa gn) ++ fr) H := hP
  have hD : va_D A ((wB cI h0 q1 q2 q3 q4 q5 o f ee t b_16 ic bc_16 sa gn) ++ fr) := hD
  rw [hQ]; exact retMv (w1 := fun u : By => ((wB cI h0 q1 q2 q3 q4 q5 o f ee t u.1 ic u.2 sa gn) ++ fr)) (b_16, bc_16) hx hb hr hlocks hP hD hS ⟨by rw [e_16.1, e_11.1, e_3.1]; simp [wrB], e_16.2⟩ d_B_writeBranch_19

abbrev w_B_writeInstruction : List Cond := .code y_B_writeInstruction b_B_writeInstruction 4 none :: BIG
set_option maxHeartbeats 4000000 in
set_option maxRecDepth 100000 in
theorem c_B_writeInstruction (l : Launch) (D : va_G) (cI cL cO : ClassId) (h0 : Nat) (q1 : Nat) (q2 : Nat) (q3 : Nat) (q4 : Nat) (q5 : Nat) (o : Fn) (f : Fn) (ee : Fn) (t : Fn) (b : Fn) (ic : Int32) (bc : Int32) (sa : Int32) (gn : Int32) (fr : va_W) (op : Int32) (a : Int32) (x : Int32) (hbc : ¬ bc < 0) : CMv l y_B_writeInstruction w_B_writeInstruction ({ frames := 2, cells := 0, slots := 0, locals := 43 }) D cI cL cO [.ref h0, .int op, .int a, .int x] ((wB cI h0 q1 q2 q3 q4 q5 o f ee t b ic bc sa gn) ++ fr) (fun u : By => u = wrI t ic op a x (b, bc) ∧ ¬ u.2 < 0) (fun u : By => ((wB cI h0 q1 q2 q3 q4 q5 o f ee t u.1 ic u.2 sa gn) ++ fr)) 0 0 := by
  refine ofMv (cc := b_B_writeInstruction) (maxL := 4) (ret := none) (by decide) rfl (Nat.le_of_ble_eq_true rfl) ?_
  intro p e s m below meth c A ls H Q hQ hx hb hr hlocks hin hts hown hml hP hK hD hS hA hl
  have hl : lv_has ls 4 [(0, .ref h0), (1, .int op), (2, .int a), (3, .int x)] := hl
  have hown : s.vm.findClass R_B = some m.cls := hown
  have ht : ∀ w ∈ BIG, w.before _ s = true := fun w h => hts w (List.mem_cons_of_mem _ h)
  refine lv_iload_n hx hb d_B_writeInstruction_0 rfl (lv_at hl 1 rfl) ?_
  by_cases c_1_0 : op = 0
  · refine lv_lookup (off := 35) (tgt := 36) hx hb d_B_writeInstruction_1 (by decide) (by rw [c_1_0] <;> rfl) (by decide) ?_
    refine lv_aload_n hx hb d_B_writeInstruction_36 rfl (lv_at hl 0 rfl) ?_
    refine lv_iload_n hx hb d_B_writeInstruction_37 rfl (lv_at hl 3 rfl) ?_
    refine goMv (va_runV (As := [.int x]) (rest := []) ⟨hx, hb, hml, hown, hts⟩ (c_B_writePush l D cI cL cO h0 q1 q2 q3 q4 q5 o f ee t b ic bc sa gn fr x hbc H.size) (cwV 1 hts (gBIG (m4 k_ml_B_59 k_im_B_writePush k_sel_B_writePush k_ini_B) k_co_B_writePush) rfl rfl rfl (by decide +kernel) ⟨Nat.le_of_ble_eq_true rfl, Nat.le_of_ble_eq_true rfl⟩) ⟨PM.bl, va_recv hK.1 hP (ci := 0) (q0 := 0) rfl rfl, PM.pre hP hD hK⟩ rfl rfl hl.1 rfl (lv_room (Nat.le_of_ble_eq_true rfl)) d_B_writeInstruction_38 ⟨Nat.le_of_ble_eq_true rfl, Nat.le_of_ble_eq_true rfl⟩) hD hS hA (fun u H locs hw hP hD hS => ?_)
    obtain ⟨b_38, bc_38⟩ := u
    have e_38 : (b_38, bc_38) = wrP x (b, bc) ∧ ¬ bc_38 < 0 := hw
    have hP : va_P D vwCl ((wB cI h0 q1 q2 q3 q4 q5 o f ee t b_38 ic bc_38 sa gn) ++ fr) H := hP
    have hD : va_D A ((wB cI h0 q1 q2 q3 q4 q5 o f ee t b_38 ic bc_38 sa gn) ++ fr) := hD
    refine lv_aload_n hx hb d_B_writeInstruction_41 rfl (lv_at hl 0 rfl) ?_
    refine lv_iconst (v := 2) hx hb d_B_writeInstruction_42 (by decide) ?_
    refine lv_iload_n hx hb d_B_writeInstruction_43 rfl (lv_at hl 2 rfl) ?_
    refine goMv (va_runV (As := [.int 2, .int a]) (rest := []) ⟨hx, hb, hml, hown, hts⟩ (c_B_writeWithRegister l D cI cL cO h0 q1 q2 q3 q4 q5 o f ee t b_38 ic bc_38 sa gn fr 2 a e_38.2 H.size) (cwV 2 hts (gBIG (m4 k_ml_B_62 k_im_B_writeWithRegister k_sel_B_writeWithRegister k_ini_B) k_co_B_writeWithRegister) rfl rfl rfl (by decide +kernel) ⟨Nat.le_of_ble_eq_true rfl, Nat.le_of_ble_eq_true rfl⟩) ⟨PM.bl, va_recv hK.1 hP (ci := 0) (q0 := 0) rfl rfl, PM.pre hP hD hK⟩ rfl rfl hl.1 rfl (lv_room (Nat.le_of_ble_eq_true rfl)) d_B_writeInstruction_44 ⟨Nat.le_of_ble_eq_true rfl, Nat.le_of_ble_eq_true rfl⟩) hD hS hA (fun u H locs hw hP hD hS => ?_)
    obtain ⟨b_44, bc_44⟩ := u
    have e_44 : (b_44, bc_44) = wrR 2 a (b_38, bc_38) ∧ ¬ bc_44 < 0 := hw
    have hP : va_P D vwCl ((wB cI h0 q1 q2 q3 q4 q5 o f ee t b_44 ic bc_44 sa gn) ++ fr) H := hP
    have hD : va_D A ((wB cI h0 q1 q2 q3 q4 q5 o f ee t b_44 ic bc_44 sa gn) ++ fr) := hD
    refine lv_goto (tgt := 108) hx hb d_B_writeInstruction_47 (by decide) ?_
    rw [hQ]; exact retMv (w1 := fun u : By => ((wB cI h0 q1 q2 q3 q4 q5 o f ee t u.1 ic u.2 sa gn) ++ fr)) (b_44, bc_44) hx hb hr hlocks hP hD hS ⟨by rw [e_44.1, e_38.1]; simp [wrI, c_1_0], e_44.2⟩ d_B_writeInstruction_108
  by_cases c_1_6 : op = 6
  · refine lv_lookup (off := 49) (tgt := 50) hx hb d_B_writeInstruction_1 (by decide) (by rw [c_1_6] <;> rfl) (by decide) ?_
    refine lv_aload_n hx hb d_B_writeInstruction_50 rfl (lv_at hl 0 rfl) ?_
    refine lv_iconst (v := 1) hx hb d_B_writeInstruction_51 (by decide) ?_
    refine lv_iload_n hx hb d_B_writeInstruction_52 rfl (lv_at hl 2 rfl) ?_
    refine goMv (va_runV (As := [.int 1, .int a]) (rest := []) ⟨hx, hb, hml, hown, hts⟩ (c_B_writeWithRegister l D cI cL cO h0 q1 q2 q3 q4 q5 o f ee t b ic bc sa gn fr 1 a hbc H.size) (cwV 2 hts (gBIG (m4 k_ml_B_62 k_im_B_writeWithRegister k_sel_B_writeWithRegister k_ini_B) k_co_B_writeWithRegister) rfl rfl rfl (by decide +kernel) ⟨Nat.le_of_ble_eq_true rfl, Nat.le_of_ble_eq_true rfl⟩) ⟨PM.bl, va_recv hK.1 hP (ci := 0) (q0 := 0) rfl rfl, PM.pre hP hD hK⟩ rfl rfl hl.1 rfl (lv_room (Nat.le_of_ble_eq_true rfl)) d_B_writeInstruction_53 ⟨Nat.le_of_ble_eq_true rfl, Nat.le_of_ble_eq_true rfl⟩) hD hS hA (fun u H locs hw hP hD hS => ?_)
    obtain ⟨b_53, bc_53⟩ := u
    have e_53 : (b_53, bc_53) = wrR 1 a (b, bc) ∧ ¬ bc_53 < 0 := hw
    have hP : va_P D vwCl ((wB cI h0 q1 q2 q3 q4 q5 o f ee t b_53 ic bc_53 sa gn) ++ fr) H := hP
    have hD : va_D A ((wB cI h0 q1 q2 q3 q4 q5 o f ee t b_53 ic bc_53 sa gn) ++ fr) := hD
    refine lv_aload_n hx hb d_B_writeInstruction_56 rfl (lv_at hl 0 rfl) ?_
    refine lv_aload_n hx hb d_B_writeInstruction_57 rfl (lv_at hl 0 rfl) ?_
    refine lv_iload_n hx hb d_B_writeInstruction_58 rfl (lv_at hl 3 rfl) ?_
    refine goRi (va_runV (As := [.int x]) (rest := [.ref h0]) ⟨hx, hb, hml, hown, hts⟩ (c_B_startOf l D cI cL cO h0 q1 q2 q3 q4 q5 o f ee t b_53 ic bc_53 sa gn x) (cwV 1 hts (gBIG (m4 k_ml_B_44 k_im_B_startOf k_sel_B_startOf k_ini_B) k_co_B_startOf) rfl rfl rfl (by decide +kernel) ⟨Nat.le_of_ble_eq_true rfl, Nat.le_of_ble_eq_true rfl⟩) ⟨PR.bl, va_recv hK.1 ((P_app.mp hP).1) (ci := 0) (q0 := 0) rfl rfl, PR.pre ((P_app.mp hP).1) hK⟩ rfl rfl hl.1 rfl (lv_room (Nat.le_of_ble_eq_true rfl)) d_B_writeInstruction_59 ⟨Nat.le_of_ble_eq_true rfl, Nat.le_of_ble_eq_true rfl⟩) ?_
    refine goMv (va_runV (As := [.int (startF t ic x)]) (rest := []) ⟨hx, hb, hml, hown, hts⟩ (c_B_writeBranch l D cI cL cO h0 q1 q2 q3 q4 q5 o f ee t b_53 ic bc_53 sa gn fr (startF t ic x) e_53.2 H.size) (cwV 1 hts (gBIG (m4 k_ml_B_66 k_im_B_writeBranch k_sel_B_writeBranch k_ini_B) k_co_B_writeBranch) rfl rfl rfl (by decide +kernel) ⟨Nat.le_of_ble_eq_true rfl, Nat.le_of_ble_eq_true rfl⟩) ⟨PM.bl, va_recv hK.1 hP (ci := 0) (q0 := 0) rfl rfl, PM.pre hP hD hK⟩ rfl rfl hl.1 rfl (lv_room (Nat.le_of_ble_eq_true rfl)) d_B_writeInstruction_62 ⟨Nat.le_of_ble_eq_true rfl, Nat.le_of_ble_eq_true rfl⟩) hD hS hA (fun u H locs hw hP hD hS => ?_)
    obtain ⟨b_62, bc_62⟩ := u
    have e_62 : (b_62, bc_62) = wrB (startF t ic x) (b_53, bc_53) ∧ ¬ bc_62 < 0 := hw
    have hP : va_P D vwCl ((wB cI h0 q1 q2 q3 q4 q5 o f ee t b_62 ic bc_62 sa gn) ++ fr) H := hP
    have hD : va_D A ((wB cI h0 q1 q2 q3 q4 q5 o f ee t b_62 ic bc_62 sa gn) ++ fr) := hD
    refine lv_goto (tgt := 108) hx hb d_B_writeInstruction_65 (by decide) ?_
    rw [hQ]; exact retMv (w1 := fun u : By => ((wB cI h0 q1 q2 q3 q4 q5 o f ee t u.1 ic u.2 sa gn) ++ fr)) (b_62, bc_62) hx hb hr hlocks hP hD hS ⟨by rw [e_62.1, e_53.1]; simp [wrI, c_1_0, c_1_6], e_62.2⟩ d_B_writeInstruction_108
  by_cases c_1_7 : op = 7
  · refine lv_lookup (off := 67) (tgt := 68) hx hb d_B_writeInstruction_1 (by decide) (by rw [c_1_7] <;> rfl) (by decide) ?_
    refine lv_aload_n hx hb d_B_writeInstruction_68 rfl (lv_at hl 0 rfl) ?_
    refine lv_iconst (v := 1) hx hb d_B_writeInstruction_69 (by decide) ?_
    refine lv_iload_n hx hb d_B_writeInstruction_70 rfl (lv_at hl 3 rfl) ?_
    refine goMv (va_runV (As := [.int 1, .int x]) (rest := []) ⟨hx, hb, hml, hown, hts⟩ (c_B_writeWithRegister l D cI cL cO h0 q1 q2 q3 q4 q5 o f ee t b ic bc sa gn fr 1 x hbc H.size) (cwV 2 hts (gBIG (m4 k_ml_B_62 k_im_B_writeWithRegister k_sel_B_writeWithRegister k_ini_B) k_co_B_writeWithRegister) rfl rfl rfl (by decide +kernel) ⟨Nat.le_of_ble_eq_true rfl, Nat.le_of_ble_eq_true rfl⟩) ⟨PM.bl, va_recv hK.1 hP (ci := 0) (q0 := 0) rfl rfl, PM.pre hP hD hK⟩ rfl rfl hl.1 rfl (lv_room (Nat.le_of_ble_eq_true rfl)) d_B_writeInstruction_71 ⟨Nat.le_of_ble_eq_true rfl, Nat.le_of_ble_eq_true rfl⟩) hD hS hA (fun u H locs hw hP hD hS => ?_)
    obtain ⟨b_71, bc_71⟩ := u
    have e_71 : (b_71, bc_71) = wrR 1 x (b, bc) ∧ ¬ bc_71 < 0 := hw
    have hP : va_P D vwCl ((wB cI h0 q1 q2 q3 q4 q5 o f ee t b_71 ic bc_71 sa gn) ++ fr) H := hP
    have hD : va_D A ((wB cI h0 q1 q2 q3 q4 q5 o f ee t b_71 ic bc_71 sa gn) ++ fr) := hD
    refine lv_aload_n hx hb d_B_writeInstruction_74 rfl (lv_at hl 0 rfl) ?_
    refine lv_iconst (v := 2) hx hb d_B_writeInstruction_75 (by decide) ?_
    refine lv_iload_n hx hb d_B_writeInstruction_76 rfl (lv_at hl 2 rfl) ?_
    refine goMv (va_runV (As := [.int 2, .int a]) (rest := []) ⟨hx, hb, hml, hown, hts⟩ (c_B_writeWithRegister l D cI cL cO h0 q1 q2 q3 q4 q5 o f ee t b_71 ic bc_71 sa gn fr 2 a e_71.2 H.size) (cwV 2 hts (gBIG (m4 k_ml_B_62 k_im_B_writeWithRegister k_sel_B_writeWithRegister k_ini_B) k_co_B_writeWithRegister) rfl rfl rfl (by decide +kernel) ⟨Nat.le_of_ble_eq_true rfl, Nat.le_of_ble_eq_true rfl⟩) ⟨PM.bl, va_recv hK.1 hP (ci := 0) (q0 := 0) rfl rfl, PM.pre hP hD hK⟩ rfl rfl hl.1 rfl (lv_room (Nat.le_of_ble_eq_true rfl)) d_B_writeInstruction_77 ⟨Nat.le_of_ble_eq_true rfl, Nat.le_of_ble_eq_true rfl⟩) hD hS hA (fun u H locs hw hP hD hS => ?_)
    obtain ⟨b_77, bc_77⟩ := u
    have e_77 : (b_77, bc_77) = wrR 2 a (b_71, bc_71) ∧ ¬ bc_77 < 0 := hw
    have hP : va_P D vwCl ((wB cI h0 q1 q2 q3 q4 q5 o f ee t b_77 ic bc_77 sa gn) ++ fr) H := hP
    have hD : va_D A ((wB cI h0 q1 q2 q3 q4 q5 o f ee t b_77 ic bc_77 sa gn) ++ fr) := hD
    refine lv_goto (tgt := 108) hx hb d_B_writeInstruction_80 (by decide) ?_
    rw [hQ]; exact retMv (w1 := fun u : By => ((wB cI h0 q1 q2 q3 q4 q5 o f ee t u.1 ic u.2 sa gn) ++ fr)) (b_77, bc_77) hx hb hr hlocks hP hD hS ⟨by rw [e_77.1, e_71.1]; simp [wrI, c_1_0, c_1_6, c_1_7], e_77.2⟩ d_B_writeInstruction_108
  refine lv_lookup (off := 82) (tgt := 83) hx hb d_B_writeInstruction_1 (by decide) (by rw [lv_osw c_1_0 (by decide), lv_osw c_1_6 (by decide), lv_osw c_1_7 (by decide)] <;> rfl) (by decide) ?_
  refine lv_aload_n hx hb d_B_writeInstruction_83 rfl (lv_at hl 0 rfl) ?_
  refine lv_iconst (v := 1) hx hb d_B_writeInstruction_84 (by decide) ?_
  refine lv_iload_n hx hb d_B_writeInstruction_85 rfl (lv_at hl 2 rfl) ?_
  refine goMv (va_runV (As := [.int 1, .int a]) (rest := []) ⟨hx, hb, hml, hown, hts⟩ (c_B_writeWithRegister l D cI cL cO h0 q1 q2 q3 q4 q5 o f ee t b ic bc sa gn fr 1 a hbc H.size) (cwV 2 hts (gBIG (m4 k_ml_B_62 k_im_B_writeWithRegister k_sel_B_writeWithRegister k_ini_B) k_co_B_writeWithRegister) rfl rfl rfl (by decide +kernel) ⟨Nat.le_of_ble_eq_true rfl, Nat.le_of_ble_eq_true rfl⟩) ⟨PM.bl, va_recv hK.1 hP (ci := 0) (q0 := 0) rfl rfl, PM.pre hP hD hK⟩ rfl rfl hl.1 rfl (lv_room (Nat.le_of_ble_eq_true rfl)) d_B_writeInstruction_86 ⟨Nat.le_of_ble_eq_true rfl, Nat.le_of_ble_eq_true rfl⟩) hD hS hA (fun u H locs hw hP hD hS => ?_)
  obtain ⟨b_86, bc_86⟩ := u
  have e_86 : (b_86, bc_86) = wrR 1 a (b, bc) ∧ ¬ bc_86 < 0 := hw
  have hP : va_P D vwCl ((wB cI h0 q1 q2 q3 q4 q5 o f ee t b_86 ic bc_86 sa gn) ++ fr) H := hP
  have hD : va_D A ((wB cI h0 q1 q2 q3 q4 q5 o f ee t b_86 ic bc_86 sa gn) ++ fr) := hD
  refine lv_aload_n hx hb d_B_writeInstruction_89 rfl (lv_at hl 0 rfl) ?_
  refine lv_iconst (v := 1) hx hb d_B_writeInstruction_90 (by decide) ?_
  refine lv_iload_n hx hb d_B_writeInstruction_91 rfl (lv_at hl 3 rfl) ?_
  refine goMv (va_runV (As := [.int 1, .int x]) (rest := []) ⟨hx, hb, hml, hown, hts⟩ (c_B_writeWithRegister l D cI cL cO h0 q1 q2 q3 q4 q5 o f ee t b_86 ic bc_86 sa gn fr 1 x e_86.2 H.size) (cwV 2 hts (gBIG (m4 k_ml_B_62 k_im_B_writeWithRegister k_sel_B_writeWithRegister k_ini_B) k_co_B_writeWithRegister) rfl rfl rfl (by decide +kernel) ⟨Nat.le_of_ble_eq_true rfl, Nat.le_of_ble_eq_true rfl⟩) ⟨PM.bl, va_recv hK.1 hP (ci := 0) (q0 := 0) rfl rfl, PM.pre hP hD hK⟩ rfl rfl hl.1 rfl (lv_room (Nat.le_of_ble_eq_true rfl)) d_B_writeInstruction_92 ⟨Nat.le_of_ble_eq_true rfl, Nat.le_of_ble_eq_true rfl⟩) hD hS hA (fun u H locs hw hP hD hS => ?_)
  obtain ⟨b_92, bc_92⟩ := u
  have e_92 : (b_92, bc_92) = wrR 1 x (b_86, bc_86) ∧ ¬ bc_92 < 0 := hw
  have hP : va_P D vwCl ((wB cI h0 q1 q2 q3 q4 q5 o f ee t b_92 ic bc_92 sa gn) ++ fr) H := hP
  have hD : va_D A ((wB cI h0 q1 q2 q3 q4 q5 o f ee t b_92 ic bc_92 sa gn) ++ fr) := hD
  refine lv_aload_n hx hb d_B_writeInstruction_95 rfl (lv_at hl 0 rfl) ?_
  refine lv_iload_n hx hb d_B_writeInstruction_96 rfl (lv_at hl 1 rfl) ?_
  refine lv_iconst (v := 3) hx hb d_B_writeInstruction_97 (by decide) ?_
  refine lv_iadd hx hb d_B_writeInstruction_98 ?_
  refine goMv (va_runV (As := [.int (op + 3)]) (rest := []) ⟨hx, hb, hml, hown, hts⟩ (c_B_append l D cI cL cO h0 q1 q2 q3 q4 q5 o f ee t b_92 ic bc_92 sa gn fr (op + 3) e_92.2 H.size) (cwV 1 hts (gBIG (m4 k_ml_B_55 k_im_B_append k_sel_B_append k_ini_B) k_co_B_append) rfl rfl rfl (by decide +kernel) ⟨Nat.le_of_ble_eq_true rfl, Nat.le_of_ble_eq_true rfl⟩) ⟨PM.bl, va_recv hK.1 hP (ci := 0) (q0 := 0) rfl rfl, PM.pre hP hD hK⟩ rfl rfl hl.1 rfl (lv_room (Nat.le_of_ble_eq_true rfl)) d_B_writeInstruction_99 ⟨Nat.le_of_ble_eq_true rfl, Nat.le_of_ble_eq_true rfl⟩) hD hS hA (fun u H locs hw hP hD hS => ?_)
  obtain ⟨b_99, bc_99⟩ := u
  have e_99 : (b_99, bc_99) = apF (op + 3) (b_92, bc_92) ∧ ¬ bc_99 < 0 := hw
  have hP : va_P D vwCl ((wB cI h0 q1 q2 q3 q4 q5 o f ee t b_99 ic bc_99 sa gn) ++ fr) H := hP
  have hD : va_D A ((wB cI h0 q1 q2 q3 q4 q5 o f ee t b_99 ic bc_99 sa gn) ++ fr) := hD
  refine lv_aload_n hx hb d_B_writeInstruction_102 rfl (lv_at hl 0 rfl) ?_
  refine lv_iconst (v := 2) hx hb d_B_writeInstruction_103 (by decide) ?_
  refine lv_iload_n hx hb d_B_writeInstruction_104 rfl (lv_at hl 2 rfl) ?_
  refine goMv (va_runV (As := [.int 2, .int a]) (rest := []) ⟨hx, hb, hml, hown, hts⟩ (c_B_writeWithRegister l D cI cL cO h0 q1 q2 q3 q4 q5 o f ee t b_99 ic bc_99 sa gn fr 2 a e_99.2 H.size) (cwV 2 hts (gBIG (m4 k_ml_B_62 k_im_B_writeWithRegister k_sel_B_writeWithRegister k_ini_B) k_co_B_writeWithRegister) rfl rfl rfl (by decide +kernel) ⟨Nat.le_of_ble_eq_true rfl, Nat.le_of_ble_eq_true rfl⟩) ⟨PM.bl, va_recv hK.1 hP (ci := 0) (q0 := 0) rfl rfl, PM.pre hP hD hK⟩ rfl rfl hl.1 rfl (lv_room (Nat.le_of_ble_eq_true rfl)) d_B_writeInstruction_105 ⟨Nat.le_of_ble_eq_true rfl, Nat.le_of_ble_eq_true rfl⟩) hD hS hA (fun u H locs hw hP hD hS => ?_)
  obtain ⟨b_105, bc_105⟩ := u
  have e_105 : (b_105, bc_105) = wrR 2 a (b_99, bc_99) ∧ ¬ bc_105 < 0 := hw
  have hP : va_P D vwCl ((wB cI h0 q1 q2 q3 q4 q5 o f ee t b_105 ic bc_105 sa gn) ++ fr) H := hP
  have hD : va_D A ((wB cI h0 q1 q2 q3 q4 q5 o f ee t b_105 ic bc_105 sa gn) ++ fr) := hD
  rw [hQ]; exact retMv (w1 := fun u : By => ((wB cI h0 q1 q2 q3 q4 q5 o f ee t u.1 ic u.2 sa gn) ++ fr)) (b_105, bc_105) hx hb hr hlocks hP hD hS ⟨by rw [e_105.1, e_99.1, e_92.1, e_86.1]; simp [wrI, c_1_0, c_1_6, c_1_7], e_105.2⟩ d_B_writeInstruction_108
