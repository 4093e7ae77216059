set_option maxHeartbeats 1000000 in
set_option maxRecDepth 100000 in
theorem c_M_border0 (l : Launch) (D : va_G) (cI cL cO : ClassId) (x0 : Nat) (lim : Int32) (a0 : Nat) (k0 : Nat) (u0 : Nat) (v0 : Nat) (t1 : Nat) (gen : Int32) (wrg : Int32) (rns : Int32) (als : Int32) (d0 : Nat) (mo : Int32) : CRi l y_M_border w_M_border ({ frames := 1, cells := 0, slots := 0, locals := 20 }) D cI cL cO [.ref x0] ((wX x0 lim a0 k0 u0 v0 t1 gen wrg rns als) ++ (wH a0 d0 0 mo)) 0 := by
  refine ofR (cc := b_M_border) (maxL := 4) (ret := (some .int)) (by decide) rfl (Nat.le_of_ble_eq_true rfl) ?_
  intro p e s m below meth c ls Q hQ hx hb hr hlocks hts hown hml hP hK hl
  have hl : lv_has ls 4 [(0, .ref x0)] := hl
  have hown : s.vm.findClass R_M = some m.cls := hown
  have ht : ∀ w ∈ BIG, w.before _ s = true := fun w h => hts w (List.mem_cons_of_mem _ h)
  refine lv_iconst (v := 0) hx hb d_M_border_0 (by decide) ?_
  refine lv_istore_n (lv' := [(1, .int 0), (0, .ref x0)]) hx hb d_M_border_1 rfl hl (by decide) rfl (fun ls hl => ?_)
  refine lv_iconst (v := 0) hx hb d_M_border_2 (by decide) ?_
  refine lv_istore_n (lv' := [(2, .int 0), (1, .int 0), (0, .ref x0)]) hx hb d_M_border_3 rfl hl (by decide) rfl (fun ls hl => ?_)
  refine lv_iload_n hx hb d_M_border_4 rfl (lv_at hl 0 rfl) ?_
  refine lv_aload_n hx hb d_M_border_5 rfl (lv_at hl 2 rfl) ?_
  refine va_get (ci := 3) (v := .ref a0) (C := R_M) (T := T_M) (N := 10) hx hb ht in_M hown hK.1 hP 0 rfl rfl 1 (by decide) (ht _ k_fl_M_12) (fun _ h9 => h9) rfl d_M_border_6 ?_
  refine goRi (va_runV (As := []) (rest := [.int 0]) ⟨hx, hb, hml, hown, hts⟩ (c_A_size l D cI cL cO a0 d0 0 mo) (cwV 0 hts (gBIG (m4 k_ml_M_46 k_im_A_size k_sel_A_size k_ini_A) k_co_A_size) rfl rfl rfl (by decide +kernel) ⟨Nat.le_of_ble_eq_true rfl, Nat.le_of_ble_eq_true rfl⟩) ⟨PR.bl, va_recv hK.1 ((P_app.mp hP).2) (ci := 4) (q0 := 0) rfl rfl, PR.pre ((P_app.mp hP).2) hK⟩ rfl rfl hl.1 rfl (lv_room (Nat.le_of_ble_eq_true rfl)) d_M_border_9 ⟨Nat.le_of_ble_eq_true rfl, Nat.le_of_ble_eq_true rfl⟩) ?_
  refine lv_icmp_ge (tgt := 80) hx hb d_M_border_12 (by decide) (fun c_12 => ?_) (fun c_12 => ?_)
  · refine lv_iload_n hx hb d_M_border_80 rfl (lv_at hl 1 rfl) ?_
    rw [hQ]; exact retRi hx hb hr hlocks rfl d_M_border_81
  · exact absurd c_12 (by decide)

set_option maxHeartbeats 1000000 in
set_option maxRecDepth 100000 in
theorem c_M_next0 (l : Launch) (D : va_G) (cI cL cO : ClassId) (x0 : Nat) (lim : Int32) (a0 : Nat) (k0 : Nat) (u0 : Nat) (v0 : Nat) (t1 : Nat) (gen : Int32) (wrg : Int32) (rns : Int32) (als : Int32) (d0 : Nat) (mo : Int32) (fr : va_W) : CMi l y_M_next w_M_next ({ frames := 2, cells := 0, slots := 0, locals := 50 }) D cI cL cO [.ref x0] ((wX x0 lim a0 k0 u0 v0 t1 gen wrg rns als) ++ ((wH a0 d0 0 mo) ++ fr)) (fun (r : Int32) (u : Int32) => r = 0 ∧ u = gen + 1) (fun u : Int32 => ((wX x0 lim a0 k0 u0 v0 t1 u wrg rns als) ++ ((wH a0 d0 0 mo) ++ fr))) 0 0 := by
  refine ofMi (cc := b_M_next) (maxL := 5) (ret := (some .int)) (by decide) rfl (Nat.le_of_ble_eq_true rfl) ?_
  intro p e s m below meth c A ls H Q hQ hx hb hr hlocks hin hts hown hml hP hK hD hS hA hl
  have hl : lv_has ls 5 [(0, .ref x0)] := hl
  have hown : s.vm.findClass R_M = some m.cls := hown
  have ht : ∀ w ∈ BIG, w.before _ s = true := fun w h => hts w (List.mem_cons_of_mem _ h)
  refine lv_aload_n hx hb d_M_next_0 rfl (lv_at hl 0 rfl) ?_
  refine lv_dup hx hb d_M_next_1 rfl ?_
  refine va_get (ci := 3) (v := .int gen) (C := R_M) (T := T_M) (N := 10) hx hb ht in_M hown hK.1 hP 0 rfl rfl 6 (by decide) (ht _ k_fl_M_103) (fun _ h9 => h9) rfl d_M_next_2 ?_
  refine lv_iconst (v := 1) hx hb d_M_next_5 (by decide) ?_
  refine lv_iadd hx hb d_M_next_6 ?_
  refine va_put (ci := 3) (v := .int (gen + 1)) (ty := .int) (C := R_M) (T := T_M) (N := 10) hx hb ht in_M t_M t_M_ok n_M hown hK.1 hP hD hS 0 rfl rfl 6 (by decide) (ht _ k_fl_M_103) (fun _ h9 => h9) rfl (by decide +kernel) rfl rfl (Nat.le_of_ble_eq_true rfl) d_M_next_7 (fun H locs hP hD hS => ?_)
  have hP : va_P D vwCl ((wX x0 lim a0 k0 u0 v0 t1 (gen + 1) wrg rns als) ++ ((wH a0 d0 0 mo) ++ fr)) H := hP
  have hD : va_D A ((wX x0 lim a0 k0 u0 v0 t1 (gen + 1) wrg rns als) ++ ((wH a0 d0 0 mo) ++ fr)) := hD
  refine lv_aload_n hx hb d_M_next_10 rfl (lv_at hl 0 rfl) ?_
  refine goRi (va_runV (As := []) (rest := []) ⟨hx, hb, hml, hown, hts⟩ (c_M_oldestGeneration l D cI cL cO x0 lim a0 k0 u0 v0 t1 (gen + 1) wrg rns als) (cwV 0 hts (gBIG (m4 k_ml_M_143 k_im_M_oldestGeneration k_sel_M_oldestGeneration k_ini_M) k_co_M_oldestGeneration) rfl rfl rfl (by decide +kernel) ⟨Nat.le_of_ble_eq_true rfl, Nat.le_of_ble_eq_true rfl⟩) ⟨PR.bl, va_recv hK.1 ((P_app.mp hP).1) (ci := 3) (q0 := 0) rfl rfl, PR.pre ((P_app.mp hP).1) hK⟩ rfl rfl hl.1 rfl (lv_room (Nat.le_of_ble_eq_true rfl)) d_M_next_11 ⟨Nat.le_of_ble_eq_true rfl, Nat.le_of_ble_eq_true rfl⟩) ?_
  refine lv_istore_n (lv' := [(1, .int (maxF 0 ((gen + 1) - lim + 1))), (0, .ref x0)]) hx hb d_M_next_14 rfl hl (by decide) rfl (fun ls hl => ?_)
  refine lv_iconst (v := 0) hx hb d_M_next_15 (by decide) ?_
  refine lv_istore_n (lv' := [(2, .int 0), (1, .int (maxF 0 ((gen + 1) - lim + 1))), (0, .ref x0)]) hx hb d_M_next_16 rfl hl (by decide) rfl (fun ls hl => ?_)
  refine lv_iconst (v := 0) hx hb d_M_next_17 (by decide) ?_
  refine lv_istore_n (lv' := [(3, .int 0), (2, .int 0), (1, .int (maxF 0 ((gen + 1) - lim + 1))), (0, .ref x0)]) hx hb d_M_next_18 rfl hl (by decide) rfl (fun ls hl => ?_)
  refine lv_iload_n hx hb d_M_next_19 rfl (lv_at hl 0 rfl) ?_
  refine lv_aload_n hx hb d_M_next_20 rfl (lv_at hl 3 rfl) ?_
  refine va_get (ci := 3) (v := .ref a0) (C := R_M) (T := T_M) (N := 10) hx hb ht in_M hown hK.1 hP 0 rfl rfl 1 (by decide) (ht _ k_fl_M_12) (fun _ h9 => h9) rfl d_M_next_21 ?_
  refine goRi (va_runV (As := []) (rest := [.int 0]) ⟨hx, hb, hml, hown, hts⟩ (c_A_size l D cI cL cO a0 d0 0 mo) (cwV 0 hts (gBIG (m4 k_ml_M_46 k_im_A_size k_sel_A_size k_ini_A) k_co_A_size) rfl rfl rfl (by decide +kernel) ⟨Nat.le_of_ble_eq_true rfl, Nat.le_of_ble_eq_true rfl⟩) ⟨PR.bl, va_recv hK.1 ((P_app.mp (P_app.mp hP).2).1) (ci := 4) (q0 := 0) rfl rfl, PR.pre ((P_app.mp (P_app.mp hP).2).1) hK⟩ rfl rfl hl.1 rfl (lv_room (Nat.le_of_ble_eq_true rfl)) d_M_next_24 ⟨Nat.le_of_ble_eq_true rfl, Nat.le_of_ble_eq_true rfl⟩) ?_
  refine lv_icmp_ge (tgt := 74) hx hb d_M_next_27 (by decide) (fun c_27 => ?_) (fun c_27 => ?_)
  · refine lv_iload_n hx hb d_M_next_74 rfl (lv_at hl 1 rfl) ?_
    rw [hQ]; exact retMi (w1 := fun u : Int32 => ((wX x0 lim a0 k0 u0 v0 t1 u wrg rns als) ++ ((wH a0 d0 0 mo) ++ fr))) (gen + 1) hx hb hr hlocks hP hD hS ⟨rfl, rfl⟩ d_M_next_75
  · exact absurd c_27 (by decide)

set_option maxHeartbeats 1000000 in
set_option maxRecDepth 100000 in
theorem c_M_blocksThatAre0 (l : Launch) (D : va_G) (cI cL cO : ClassId) (x0 : Nat) (lim : Int32) (a0 : Nat) (k0 : Nat) (u0 : Nat) (v0 : Nat) (t1 : Nat) (gen : Int32) (wrg : Int32) (rns : Int32) (als : Int32) (d0 : Nat) (mo : Int32) (st : Int32) : CRi l y_M_blocksThatAre w_M_blocksThatAre ({ frames := 1, cells := 0, slots := 0, locals := 20 }) D cI cL cO [.ref x0, .int st] ((wX x0 lim a0 k0 u0 v0 t1 gen wrg rns als) ++ (wH a0 d0 0 mo)) 0 := by
  refine ofR (cc := b_M_blocksThatAre) (maxL := 4) (ret := (some .int)) (by decide) rfl (Nat.le_of_ble_eq_true rfl) ?_
  intro p e s m below meth c ls Q hQ hx hb hr hlocks hts hown hml hP hK hl
  have hl : lv_has ls 4 [(0, .ref x0), (1, .int st)] := hl
  have hown : s.vm.findClass R_M = some m.cls := hown
  have ht : ∀ w ∈ BIG, w.before _ s = true := fun w h => hts w (List.mem_cons_of_mem _ h)
  refine lv_iconst (v := 0) hx hb d_M_blocksThatAre_0 (by decide) ?_
  refine lv_istore_n (lv' := [(2, .int 0), (0, .ref x0), (1, .int st)]) hx hb d_M_blocksThatAre_1 rfl hl (by decide) rfl (fun ls hl => ?_)
  refine lv_iconst (v := 0) hx hb d_M_blocksThatAre_2 (by decide) ?_
  refine lv_istore_n (lv' := [(3, .int 0), (2, .int 0), (0, .ref x0), (1, .int st)]) hx hb d_M_blocksThatAre_3 rfl hl (by decide) rfl (fun ls hl => ?_)
  refine lv_iload_n hx hb d_M_blocksThatAre_4 rfl (lv_at hl 0 rfl) ?_
  refine lv_aload_n hx hb d_M_blocksThatAre_5 rfl (lv_at hl 2 rfl) ?_
  refine va_get (ci := 3) (v := .ref a0) (C := R_M) (T := T_M) (N := 10) hx hb ht in_M hown hK.1 hP 0 rfl rfl 1 (by decide) (ht _ k_fl_M_12) (fun _ h9 => h9) rfl d_M_blocksThatAre_6 ?_
  refine goRi (va_runV (As := []) (rest := [.int 0]) ⟨hx, hb, hml, hown, hts⟩ (c_A_size l D cI cL cO a0 d0 0 mo) (cwV 0 hts (gBIG (m4 k_ml_M_46 k_im_A_size k_sel_A_size k_ini_A) k_co_A_size) rfl rfl rfl (by decide +kernel) ⟨Nat.le_of_ble_eq_true rfl, Nat.le_of_ble_eq_true rfl⟩) ⟨PR.bl, va_recv hK.1 ((P_app.mp hP).2) (ci := 4) (q0 := 0) rfl rfl, PR.pre ((P_app.mp hP).2) hK⟩ rfl rfl hl.1 rfl (lv_room (Nat.le_of_ble_eq_true rfl)) d_M_blocksThatAre_9 ⟨Nat.le_of_ble_eq_true rfl, Nat.le_of_ble_eq_true rfl⟩) ?_
  refine lv_icmp_ge (tgt := 42) hx hb d_M_blocksThatAre_12 (by decide) (fun c_12 => ?_) (fun c_12 => ?_)
  · refine lv_iload_n hx hb d_M_blocksThatAre_42 rfl (lv_at hl 1 rfl) ?_
    rw [hQ]; exact retRi hx hb hr hlocks rfl d_M_blocksThatAre_43
  · exact absurd c_12 (by decide)

def ctM0 (w gen lim wrg rns als : Int32) : Int32 := if w = 0 then 0 else if w = 1 then gen else if w = 2 then maxF 0 (gen - lim + 1) else if w = 3 then 0 else if w = 4 then 0 else if w = 5 then wrg else if w = 6 then rns else if w = 7 then als else if w = 8 then lim else -1

set_option maxHeartbeats 1000000 in
set_option maxRecDepth 100000 in
theorem c_M_count0 (l : Launch) (D : va_G) (cI cL cO : ClassId) (x0 : Nat) (lim : Int32) (a0 : Nat) (k0 : Nat) (u0 : Nat) (v0 : Nat) (t1 : Nat) (gen : Int32) (wrg : Int32) (rns : Int32) (als : Int32) (d0 : Nat) (mo : Int32) (w : Int32) : CRi l y_M_count w_M_count ({ frames := 2, cells := 0, slots := 0, locals := 50 }) D cI cL cO [.ref x0, .int w] ((wX x0 lim a0 k0 u0 v0 t1 gen wrg rns als) ++ (wH a0 d0 0 mo)) (ctM0 w gen lim wrg rns als) := by
  refine ofR (cc := b_M_count) (maxL := 2) (ret := (some .int)) (by decide) rfl (Nat.le_of_ble_eq_true rfl) ?_
  intro p e s m below meth c ls Q hQ hx hb hr hlocks hts hown hml hP hK hl
  have hl : lv_has ls 2 [(0, .ref x0), (1, .int w)] := hl
  have hown : s.vm.findClass R_M = some m.cls := hown
  have ht : ∀ w ∈ BIG, w.before _ s = true := fun w h => hts w (List.mem_cons_of_mem _ h)
  refine lv_iload_n hx hb d_M_count_0 rfl (lv_at hl 1 rfl) ?_
  by_cases c_1_0 : w = 0
  · refine lv_tableIn (off := 51) (tgt := 52) hx hb d_M_count_1 (by rw [c_1_0]; decide) (by rw [c_1_0]; decide) (by rw [c_1_0] <;> rfl) (by decide) ?_
    refine lv_aload_n hx hb d_M_count_52 rfl (lv_at hl 0 rfl) ?_
    refine va_get (ci := 3) (v := .ref a0) (C := R_M) (T := T_M) (N := 10) hx hb ht in_M hown hK.1 hP 0 rfl rfl 1 (by decide) (ht _ k_fl_M_12) (fun _ h9 => h9) rfl d_M_count_53 ?_
    refine goRi (va_runV (As := []) (rest := []) ⟨hx, hb, hml, hown, hts⟩ (c_A_size l D cI cL cO a0 d0 0 mo) (cwV 0 hts (gBIG (m4 k_ml_M_46 k_im_A_size k_sel_A_size k_ini_A) k_co_A_size) rfl rfl rfl (by decide +kernel) ⟨Nat.le_of_ble_eq_true rfl, Nat.le_of_ble_eq_true rfl⟩) ⟨PR.bl, va_recv hK.1 ((P_app.mp hP).2) (ci := 4) (q0 := 0) rfl rfl, PR.pre ((P_app.mp hP).2) hK⟩ rfl rfl hl.1 rfl (lv_room (Nat.le_of_ble_eq_true rfl)) d_M_count_56 ⟨Nat.le_of_ble_eq_true rfl, Nat.le_of_ble_eq_true rfl⟩) ?_
    rw [hQ]; exact retRi hx hb hr hlocks (by first | (simp only [ctM0, if_pos c_1_0]; done) | simp [ctM0, c_1_0]) d_M_count_59
  by_cases c_1_1 : w = 1
  · refine lv_tableIn (off := 59) (tgt := 60) hx hb d_M_count_1 (by rw [c_1_1]; decide) (by rw [c_1_1]; decide) (by rw [c_1_1] <;> rfl) (by decide) ?_
    refine lv_aload_n hx hb d_M_count_60 rfl (lv_at hl 0 rfl) ?_
    refine va_get (ci := 3) (v := .int gen) (C := R_M) (T := T_M) (N := 10) hx hb ht in_M hown hK.1 hP 0 rfl rfl 6 (by decide) (ht _ k_fl_M_103) (fun _ h9 => h9) rfl d_M_count_61 ?_
    rw [hQ]; exact retRi hx hb hr hlocks (by first | (simp only [ctM0, if_neg c_1_0, if_pos c_1_1]; done) | simp [ctM0, c_1_0, c_1_1]) d_M_count_64
  by_cases c_1_2 : w = 2
  · refine lv_tableIn (off := 64) (tgt := 65) hx hb d_M_count_1 (by rw [c_1_2]; decide) (by rw [c_1_2]; decide) (by rw [c_1_2] <;> rfl) (by decide) ?_
    refine lv_aload_n hx hb d_M_count_65 rfl (lv_at hl 0 rfl) ?_
    refine goRi (va_runV (As := []) (rest := []) ⟨hx, hb, hml, hown, hts⟩ (c_M_oldestGeneration l D cI cL cO x0 lim a0 k0 u0 v0 t1 gen wrg rns als) (cwV 0 hts (gBIG (m4 k_ml_M_143 k_im_M_oldestGeneration k_sel_M_oldestGeneration k_ini_M) k_co_M_oldestGeneration) rfl rfl rfl (by decide +kernel) ⟨Nat.le_of_ble_eq_true rfl, Nat.le_of_ble_eq_true rfl⟩) ⟨PR.bl, va_recv hK.1 ((P_app.mp hP).1) (ci := 3) (q0 := 0) rfl rfl, PR.pre ((P_app.mp hP).1) hK⟩ rfl rfl hl.1 rfl (lv_room (Nat.le_of_ble_eq_true rfl)) d_M_count_66 ⟨Nat.le_of_ble_eq_true rfl, Nat.le_of_ble_eq_true rfl⟩) ?_
    rw [hQ]; exact retRi hx hb hr hlocks (by first | (simp only [ctM0, if_neg c_1_0, if_neg c_1_1, if_pos c_1_2]; done) | simp [ctM0, c_1_0, c_1_1, c_1_2]) d_M_count_69
  by_cases c_1_3 : w = 3
  · refine lv_tableIn (off := 69) (tgt := 70) hx hb d_M_count_1 (by rw [c_1_3]; decide) (by rw [c_1_3]; decide) (by rw [c_1_3] <;> rfl) (by decide) ?_
    refine lv_aload_n hx hb d_M_count_70 rfl (lv_at hl 0 rfl) ?_
    refine lv_iconst (v := 2) hx hb d_M_count_71 (by decide) ?_
    refine goRi (va_runV (As := [.int 2]) (rest := []) ⟨hx, hb, hml, hown, hts⟩ (c_M_blocksThatAre0 l D cI cL cO x0 lim a0 k0 u0 v0 t1 gen wrg rns als d0 mo 2) (cwV 1 hts (gBIG (m4 k_ml_M_184 k_im_M_blocksThatAre k_sel_M_blocksThatAre k_ini_M) k_co_M_blocksThatAre) rfl rfl rfl (by decide +kernel) ⟨Nat.le_of_ble_eq_true rfl, Nat.le_of_ble_eq_true rfl⟩) ⟨PR.bl, va_recv hK.1 (P_app.mpr ⟨(P_app.mp hP).1, (P_app.mp hP).2⟩) (ci := 3) (q0 := 0) rfl rfl, PR.pre (P_app.mpr ⟨(P_app.mp hP).1, (P_app.mp hP).2⟩) hK⟩ rfl rfl hl.1 rfl (lv_room (Nat.le_of_ble_eq_true rfl)) d_M_count_72 ⟨Nat.le_of_ble_eq_true rfl, Nat.le_of_ble_eq_true rfl⟩) ?_
    rw [hQ]; exact retRi hx hb hr hlocks (by first | (simp only [ctM0, if_neg c_1_0, if_neg c_1_1, if_neg c_1_2, if_pos c_1_3]; done) | simp [ctM0, c_1_0, c_1_1, c_1_2, c_1_3]) d_M_count_75
  by_cases c_1_4 : w = 4
  · refine lv_tableIn (off := 75) (tgt := 76) hx hb d_M_count_1 (by rw [c_1_4]; decide) (by rw [c_1_4]; decide) (by rw [c_1_4] <;> rfl) (by decide) ?_
    refine lv_aload_n hx hb d_M_count_76 rfl (lv_at hl 0 rfl) ?_
    refine lv_iconst (v := 1) hx hb d_M_count_77 (by decide) ?_
    refine goRi (va_runV (As := [.int 1]) (rest := []) ⟨hx, hb, hml, hown, hts⟩ (c_M_blocksThatAre0 l D cI cL cO x0 lim a0 k0 u0 v0 t1 gen wrg rns als d0 mo 1) (cwV 1 hts (gBIG (m4 k_ml_M_184 k_im_M_blocksThatAre k_sel_M_blocksThatAre k_ini_M) k_co_M_blocksThatAre) rfl rfl rfl (by decide +kernel) ⟨Nat.le_of_ble_eq_true rfl, Nat.le_of_ble_eq_true rfl⟩) ⟨PR.bl, va_recv hK.1 (P_app.mpr ⟨(P_app.mp hP).1, (P_app.mp hP).2⟩) (ci := 3) (q0 := 0) rfl rfl, PR.pre (P_app.mpr ⟨(P_app.mp hP).1, (P_app.mp hP).2⟩) hK⟩ rfl rfl hl.1 rfl (lv_room (Nat.le_of_ble_eq_true rfl)) d_M_count_78 ⟨Nat.le_of_ble_eq_true rfl, Nat.le_of_ble_eq_true rfl⟩) ?_
    rw [hQ]; exact retRi hx hb hr hlocks (by first | (simp only [ctM0, if_neg c_1_0, if_neg c_1_1, if_neg c_1_2, if_neg c_1_3, if_pos c_1_4]; done) | simp [ctM0, c_1_0, c_1_1, c_1_2, c_1_3, c_1_4]) d_M_count_81
  by_cases c_1_5 : w = 5
  · refine lv_tableIn (off := 81) (tgt := 82) hx hb d_M_count_1 (by rw [c_1_5]; decide) (by rw [c_1_5]; decide) (by rw [c_1_5] <;> rfl) (by decide) ?_
    refine lv_aload_n hx hb d_M_count_82 rfl (lv_at hl 0 rfl) ?_
    refine va_get (ci := 3) (v := .int wrg) (C := R_M) (T := T_M) (N := 10) hx hb ht in_M hown hK.1 hP 0 rfl rfl 7 (by decide) (ht _ k_fl_M_138) (fun _ h9 => h9) rfl d_M_count_83 ?_
    rw [hQ]; exact retRi hx hb hr hlocks (by first | (simp only [ctM0, if_neg c_1_0, if_neg c_1_1, if_neg c_1_2, if_neg c_1_3, if_neg c_1_4, if_pos c_1_5]; done) | simp [ctM0, c_1_0, c_1_1, c_1_2, c_1_3, c_1_4, c_1_5]) d_M_count_86
  by_cases c_1_6 : w = 6
  · refine lv_tableIn (off := 86) (tgt := 87) hx hb d_M_count_1 (by rw [c_1_6]; decide) (by rw [c_1_6]; decide) (by rw [c_1_6] <;> rfl) (by decide) ?_
    refine lv_aload_n hx hb d_M_count_87 rfl (lv_at hl 0 rfl) ?_
    refine va_get (ci := 3) (v := .int rns) (C := R_M) (T := T_M) (N := 10) hx hb ht in_M hown hK.1 hP 0 rfl rfl 8 (by decide) (ht _ k_fl_M_153) (fun _ h9 => h9) rfl d_M_count_88 ?_
    rw [hQ]; exact retRi hx hb hr hlocks (by first | (simp only [ctM0, if_neg c_1_0, if_neg c_1_1, if_neg c_1_2, if_neg c_1_3, if_neg c_1_4, if_neg c_1_5, if_pos c_1_6]; done) | simp [ctM0, c_1_0, c_1_1, c_1_2, c_1_3, c_1_4, c_1_5, c_1_6]) d_M_count_91
  by_cases c_1_7 : w = 7
  · refine lv_tableIn (off := 91) (tgt := 92) hx hb d_M_count_1 (by rw [c_1_7]; decide) (by rw [c_1_7]; decide) (by rw [c_1_7] <;> rfl) (by decide) ?_
    refine lv_aload_n hx hb d_M_count_92 rfl (lv_at hl 0 rfl) ?_
    refine va_get (ci := 3) (v := .int als) (C := R_M) (T := T_M) (N := 10) hx hb ht in_M hown hK.1 hP 0 rfl rfl 9 (by decide) (ht _ k_fl_M_156) (fun _ h9 => h9) rfl d_M_count_93 ?_
    rw [hQ]; exact retRi hx hb hr hlocks (by first | (simp only [ctM0, if_neg c_1_0, if_neg c_1_1, if_neg c_1_2, if_neg c_1_3, if_neg c_1_4, if_neg c_1_5, if_neg c_1_6, if_pos c_1_7]; done) | simp [ctM0, c_1_0, c_1_1, c_1_2, c_1_3, c_1_4, c_1_5, c_1_6, c_1_7]) d_M_count_96
  by_cases c_1_8 : w = 8
  · refine lv_tableIn (off := 96) (tgt := 97) hx hb d_M_count_1 (by rw [c_1_8]; decide) (by rw [c_1_8]; decide) (by rw [c_1_8] <;> rfl) (by decide) ?_
    refine lv_aload_n hx hb d_M_count_97 rfl (lv_at hl 0 rfl) ?_
    refine va_get (ci := 3) (v := .int lim) (C := R_M) (T := T_M) (N := 10) hx hb ht in_M hown hK.1 hP 0 rfl rfl 0 (by decide) (ht _ k_fl_M_42) (fun _ h9 => h9) rfl d_M_count_98 ?_
    rw [hQ]; exact retRi hx hb hr hlocks (by first | (simp only [ctM0, if_neg c_1_0, if_neg c_1_1, if_neg c_1_2, if_neg c_1_3, if_neg c_1_4, if_neg c_1_5, if_neg c_1_6, if_neg c_1_7, if_pos c_1_8]; done) | simp [ctM0, c_1_0, c_1_1, c_1_2, c_1_3, c_1_4, c_1_5, c_1_6, c_1_7, c_1_8]) d_M_count_101
  refine lv_tableOut (tgt := 102) hx hb d_M_count_1 (by have := lv_neT c_1_0 (show (0 : Int32).toInt = 0 by decide); have := lv_neT c_1_1 (show (1 : Int32).toInt = 1 by decide); have := lv_neT c_1_2 (show (2 : Int32).toInt = 2 by decide); have := lv_neT c_1_3 (show (3 : Int32).toInt = 3 by decide); have := lv_neT c_1_4 (show (4 : Int32).toInt = 4 by decide); have := lv_neT c_1_5 (show (5 : Int32).toInt = 5 by decide); have := lv_neT c_1_6 (show (6 : Int32).toInt = 6 by decide); have := lv_neT c_1_7 (show (7 : Int32).toInt = 7 by decide); have := lv_neT c_1_8 (show (8 : Int32).toInt = 8 by decide); omega) (by decide) ?_
  refine lv_iconst (v := (-1)) hx hb d_M_count_102 (by decide) ?_
  rw [hQ]; exact retRi hx hb hr hlocks (by first | (simp only [ctM0, if_neg c_1_0, if_neg c_1_1, if_neg c_1_2, if_neg c_1_3, if_neg c_1_4, if_neg c_1_5, if_neg c_1_6, if_neg c_1_7, if_neg c_1_8]; done) | simp [ctM0, c_1_0, c_1_1, c_1_2, c_1_3, c_1_4, c_1_5, c_1_6, c_1_7, c_1_8]) d_M_count_103

/-- two worlds of the same parts -/
theorem pcount {l1 l2 : va_W} (h : ∀ cnt : va_W → Nat, (∀ a b, cnt (a ++ b) = cnt a + cnt b) → (∀ a b, a.Perm b → cnt a = cnt b) → cnt [] = 0 → cnt l1 = cnt l2) : l1.Perm l2 := by
  haveI : DecidableEq (Nat × va_E) := fun a b => Classical.propDecidable (a = b)
  exact List.perm_iff_count.mpr (fun a => h (List.count a) (fun _ _ => List.count_append) (fun _ _ p => p.count_eq a) rfl)
theorem pool_unf0 (cI : ClassId) (bk : Nat → BK) {nb i : Nat} (z : BK) (h : i < nb) : (wBk cI z ++ restW cI bk nb i).Perm (poolW cI (upB bk i z) nb) := by
  have h1 := (pool_foc0 cI (upB bk i z) h).symm
  rw [upB_at, rest_up] at h1
  exact h1
theorem pool_new0 (cI : ClassId) (bk : Nat → BK) (nb : Nat) (z : BK) : (wBk cI z ++ poolW cI bk nb).Perm (poolW cI (upB bk nb z) (nb + 1)) := by
  have h1 := pool_new cI bk nb z []
  rw [List.append_nil, List.append_nil] at h1
  exact h1
def wCo (cI cL : ClassId) (x0 a0 k0 k1 u0 u1 u2 v0 v1 v2 t1 t2 t3 : Nat) (lim gen wrg rns als : Int32) (dd : Fn) (hg su en bb : Int32) (g pl : FL) (hg1 su1 en1 bb1 : Int32) (g1 p1 : FL) (hg2 su2 en2 bb2 : Int32) (g2 p2 : FL) : va_W :=
  wX x0 lim a0 k0 u0 v0 t1 gen wrg rns als ++ (wK k0 k1 ++ (wI3 cI k1 dd ++ (wU u0 u1 u2 hg su en bb ++ (wL4 cL u1 g ++ (wL4 cL u2 pl ++ (wU v0 v1 v2 hg1 su1 en1 bb1 ++ (wL4 cL v1 g1 ++ (wL4 cL v2 p1 ++ (wU t1 t2 t3 hg2 su2 en2 bb2 ++ (wL4 cL t2 g2 ++ wL4 cL t3 p2))))))))))
def wTl (cI cO : ClassId) (d0 cap : Nat) (rf : Nat → Option Nat) (nb : Nat) (bk : Nat → BK) : va_W := if nb = 0 then [] else wR cO d0 cap rf ++ poolW cI bk nb
def wLi (cI cO : ClassId) (t0 a0 : Nat) (mo : Int32) (d0 cap : Nat) (rf : Nat → Option Nat) (nb : Nat) (bk : Nat → BK) : va_W := wH a0 (if nb = 0 then t0 else d0) (nI nb) mo ++ wTl cI cO d0 cap rf nb bk
def LOK (nb cap : Nat) (rf : Nat → Option Nat) (bk : Nat → BK) : Prop := nb ≤ 24 ∧ (nb = 0 ∨ (nb ≤ cap ∧ (cap = 10 ∨ cap = 15 ∨ cap = 22 ∨ cap = 33) ∧ ∀ j, j < nb → rf j = some (bk j).1.1))
def CW (cI cL cO : ClassId) (t0 x0 : Nat) (lim gen wrg rns als : Int32) (nb : Nat) (bk : Nat → BK) (g : FL) (en bb : Int32) (w : va_W) : Prop :=
  ∃ (a0 k0 k1 u0 u1 u2 v0 v1 v2 t1 t2 t3 : Nat) (dd : Fn) (hg su : Int32) (pl : FL) (hg1 su1 en1 bb1 : Int32) (g1 p1 : FL) (hg2 su2 en2 bb2 : Int32) (g2 p2 : FL) (mo : Int32) (d0 cap : Nat) (rf : Nat → Option Nat), LOK nb cap rf bk ∧
    w.Perm (wCo cI cL x0 a0 k0 k1 u0 u1 u2 v0 v1 v2 t1 t2 t3 lim gen wrg rns als dd hg su en bb g pl hg1 su1 en1 bb1 g1 p1 hg2 su2 en2 bb2 g2 p2 ++ wLi cI cO t0 a0 mo d0 cap rf nb bk)
def inB (bi : Int32) (nb : Nat) : Prop := ¬ bi < 0 ∧ bi < nI nb
theorem inB_lt {bi : Int32} {nb : Nat} (h : inB bi nb) (hnb : nb ≤ 24) : bi.toNatClampNeg < nb := by
  have h0 := of_nn h.1
  have h1 := h.2
  rw [Int32.lt_iff_toInt_lt, nI_int (by omega)] at h1
  have := clN h0
  omega
theorem inB_in {bi : Int32} {nb cap : Nat} (h : inB bi nb) (hnb : nb ≤ 24) (hc : nb ≤ cap) : vp_in bi cap := by
  have h0 := of_nn h.1
  have h1 := inB_lt h hnb
  have := clN h0
  exact vp_in_iff.mpr ⟨h0, by omega⟩
theorem inB_bad {bi : Int32} {nb : Nat} (h : ¬ inB bi nb) : bi < 0 ∨ ¬ bi < nI nb := by
  rcases Decidable.em (bi < 0) with h1 | h1
  · exact Or.inl h1
  · exact Or.inr (fun h2 => h ⟨h1, h2⟩)
/-! what each helper comes to, on the class's side -/
def blO (nb : Nat) (bk : Nat → BK) (r : Int32) (v : Int64) (nb' : Nat) (bk' : Nat → BK) : Prop := (nb = 24 ∧ r = 1 ∧ nb' = nb ∧ bk' = bk) ∨ (nb < 24 ∧ r = 0 ∧ v = (nI nb + 1 - 1).toInt64 ∧ nb' = nb + 1 ∧ ∃ ad, bk' = upB bk nb (ad, (fun _ => 0, fun _ => 0, fun _ => 0, fun _ => 0, fun _ => 0), (0, 0, 0, -1)))
def insO (bi op ra x : Int32) (nb : Nat) (bk : Nat → BK) (r : Int32) (v : Int64) (bk' : Nat → BK) : Prop := (¬ inB bi nb ∧ r = 1 ∧ bk' = bk) ∨ (inB bi nb ∧ (((op < 0 ∨ 7 < op ∨ isReg ra = 0 ∨ isOpnd op x = 0) ∧ r = 2 ∧ bk' = bk) ∨ ((¬ op < 0 ∧ ¬ 7 < op ∧ ¬ isReg ra = 0 ∧ ¬ isOpnd op x = 0) ∧ ((¬ icB bk bi.toNatClampNeg < 60 ∧ r = 3 ∧ bk' = bk) ∨ (icB bk bi.toNatClampNeg < 60 ∧ r = 0 ∧ v = (icB bk bi.toNatClampNeg + 1).toInt64 ∧
  bk' = upB bk bi.toNatClampNeg ((bk bi.toNatClampNeg).1, (upd (bk bi.toNatClampNeg).2.1.1 (icB bk bi.toNatClampNeg).toNatClampNeg op, upd (bk bi.toNatClampNeg).2.1.2.1 (icB bk bi.toNatClampNeg).toNatClampNeg ra, upd (bk bi.toNatClampNeg).2.1.2.2.1 (icB bk bi.toNatClampNeg).toNatClampNeg x, upd (bk bi.toNatClampNeg).2.1.2.2.2.1 (icB bk bi.toNatClampNeg + 1).toNatClampNeg ((bk bi.toNatClampNeg).2.1.2.2.2.1 (icB bk bi.toNatClampNeg).toNatClampNeg + bytesF op x), (bk bi.toNatClampNeg).2.1.2.2.2.2), (icB bk bi.toNatClampNeg + 1, 0, 0, -1)))))))
def mkO (bi gen : Int32) (nb : Nat) (bk : Nat → BK) (r : Int32) (v : Int64) (bk' : Nat → BK) : Prop := (¬ inB bi nb ∧ r = 1 ∧ bk' = bk) ∨ (inB bi nb ∧ r = 0 ∧ ∃ (rr : Int32) (b' : Fn) (bc' sa' gn' : Int32), (rr, b', bc', sa', gn') = mkM (bk bi.toNatClampNeg).2.1.1 (bk bi.toNatClampNeg).2.1.2.1 (bk bi.toNatClampNeg).2.1.2.2.1 (bk bi.toNatClampNeg).2.1.2.2.2.1 (bk bi.toNatClampNeg).2.1.2.2.2.2 (icB bk bi.toNatClampNeg) gen ∧ v = rr.toInt64 ∧
  bk' = upB bk bi.toNatClampNeg ((bk bi.toNatClampNeg).1, ((bk bi.toNatClampNeg).2.1.1, (bk bi.toNatClampNeg).2.1.2.1, (bk bi.toNatClampNeg).2.1.2.2.1, (bk bi.toNatClampNeg).2.1.2.2.2.1, b'), (icB bk bi.toNatClampNeg, bc', sa', gn')))
def batO (bi i : Int32) (nb : Nat) (bk : Nat → BK) (r : Int32) (v : Int64) : Prop := (¬ inB bi nb ∧ r = 1) ∨ (inB bi nb ∧ ((saB bk bi.toNatClampNeg = 0 ∧ r = 2) ∨ (¬ saB bk bi.toNatClampNeg = 0 ∧ ((hasF (bcB bk bi.toNatClampNeg) i = 0 ∧ r = 3) ∨ (¬ hasF (bcB bk bi.toNatClampNeg) i = 0 ∧ r = 0 ∧ v = (rdF (byB bk bi.toNatClampNeg) (bcB bk bi.toNatClampNeg) i).toInt64)))))
def altO (bi i x : Int32) (nb : Nat) (bk : Nat → BK) (r : Int32) (v : Int64) (bk' : Nat → BK) : Prop := (¬ inB bi nb ∧ r = 1 ∧ bk' = bk) ∨ (inB bi nb ∧ ((¬ saB bk bi.toNatClampNeg = 1 ∧ r = 2 ∧ bk' = bk) ∨ (saB bk bi.toNatClampNeg = 1 ∧ (((hasF (bcB bk bi.toNatClampNeg) i = 0 ∨ x < 0 ∨ ¬ x ≤ 255) ∧ r = 3 ∧ bk' = bk) ∨ ((¬ hasF (bcB bk bi.toNatClampNeg) i = 0 ∧ ¬ x < 0 ∧ x ≤ 255) ∧ r = 0 ∧ v = (rdF (byB bk bi.toNatClampNeg) (bcB bk bi.toNatClampNeg) i).toInt64 ∧
  bk' = upB bk bi.toNatClampNeg ((bk bi.toNatClampNeg).1, ((bk bi.toNatClampNeg).2.1.1, (bk bi.toNatClampNeg).2.1.2.1, (bk bi.toNatClampNeg).2.1.2.2.1, (bk bi.toNatClampNeg).2.1.2.2.2.1, ovF (byB bk bi.toNatClampNeg) (bcB bk bi.toNatClampNeg) i x), (bk bi.toNatClampNeg).2.2))))))
def chkO (bi : Int32) (nb : Nat) (bk : Nat → BK) (r : Int32) (v : Int64) : Prop := (¬ inB bi nb ∧ r = 1) ∨ (inB bi nb ∧ ((saB bk bi.toNatClampNeg = 0 ∧ r = 2) ∨ (¬ saB bk bi.toNatClampNeg = 0 ∧ r = 0 ∧ v = (vdF (byB bk bi.toNatClampNeg) (bcB bk bi.toNatClampNeg)).toInt64)))
def whaO (bi x : Int32) (nb : Nat) (bk : Nat → BK) (r : Int32) (v : Int64) : Prop := (¬ inB bi nb ∧ r = 1) ∨ (inB bi nb ∧ ((¬ (x = 0 ∨ x = 1 ∨ x = 2 ∨ x = 3) ∧ r = 2) ∨ ((x = 0 ∨ x = 1 ∨ x = 2 ∨ x = 3) ∧ r = 0 ∧ v = (whM x (saB bk bi.toNatClampNeg) (gnB bk bi.toNatClampNeg) (icB bk bi.toNatClampNeg) (bcB bk bi.toNatClampNeg)).toInt64)))
def runO (bi : Int32) (x y : Int64) (nb : Nat) (bk : Nat → BK) (rns als : Int32) (g : FL) (en bb : Int32) (r : Int32) (v : Int64) (rns' als' : Int32) (g' : FL) (en' bb' : Int32) : Prop := (¬ inB bi nb ∧ r = 1 ∧ rns' = rns ∧ als' = als ∧ g' = g ∧ en' = en ∧ bb' = bb) ∨ (inB bi nb ∧ r = 0 ∧ ∃ (rr sp' : Int32) (pl : FL), v = rr.toInt64 ∧ rnM (bk bi.toNatClampNeg).2.1.1 (bk bi.toNatClampNeg).2.1.2.1 (bk bi.toNatClampNeg).2.1.2.2.1 (byB bk bi.toNatClampNeg) (icB bk bi.toNatClampNeg) (bcB bk bi.toNatClampNeg) (saB bk bi.toNatClampNeg) rns als x y pl rr rns' als' g' sp' en' bb')
def regO (i : Int32) (g : FL) (r : Int32) (v : Int64) : Prop := (isReg i = 0 ∧ r = 1) ∨ (¬ isReg i = 0 ∧ r = 0 ∧ v = ldF g i)
def endO (x en bb : Int32) (r : Int32) (v : Int64) : Prop := (¬ (x = 0 ∨ x = 1) ∧ r = 1) ∨ ((x = 0 ∨ x = 1) ∧ r = 0 ∧ v = (edM x en bb).toInt64)
def samO (bi : Int32) (x y : Int64) (nb : Nat) (bk : Nat → BK) (r : Int32) (v : Int64) : Prop := (¬ inB bi nb ∧ r = 1) ∨ (inB bi nb ∧ (((saB bk bi.toNatClampNeg = 0 ∨ ¬ vdF (byB bk bi.toNatClampNeg) (bcB bk bi.toNatClampNeg) = 0) ∧ r = 2) ∨ (¬ saB bk bi.toNatClampNeg = 0 ∧ vdF (byB bk bi.toNatClampNeg) (bcB bk bi.toNatClampNeg) = 0 ∧ r = 0 ∧ ∃ (rr : Int32) (pl : FL), rr = smM (bk bi.toNatClampNeg).2.1.1 (bk bi.toNatClampNeg).2.1.2.1 (bk bi.toNatClampNeg).2.1.2.2.1 (byB bk bi.toNatClampNeg) (icB bk bi.toNatClampNeg) (bcB bk bi.toNatClampNeg) x y pl ∧ v = if rr = 0 then 0 else 1)))
