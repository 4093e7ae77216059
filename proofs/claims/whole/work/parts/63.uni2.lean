set_option maxHeartbeats 1000000 in
set_option maxRecDepth 100000 in
theorem c_M_border9 (l : Launch) (D : va_G) (cI cL cO : ClassId) (x0 : Nat) (lim : Int32) (a0 : Nat) (k0 : Nat) (u0 : Nat) (v0 : Nat) (t1 : Nat) (gen : Int32) (wrg : Int32) (rns : Int32) (als : Int32) (d0 : Nat) (mo : Int32) : CRi l y_M_border w_M_border ({ frames := 5, cells := 0, slots := 0, locals := 112 }) D cI cL cO [.ref x0] ((wX x0 lim a0 k0 u0 v0 t1 gen wrg rns als) ++ (wH a0 d0 0 mo)) 0 := by
  refine ofR (cc := b_M_border) (maxL := 4) (ret := (some .int)) (by decide) rfl (Nat.le_of_ble_eq_true rfl) ?_
  intro p e s m below meth c ls Q hQ hx hb hr hlocks hts hown hml hP hK hl
  have hl : lv_has ls 4 [(0, .ref x0)] := hl
  have hown : s.vm.findClass R_M = some m.cls := hown
  have ht : ∀ w ∈ BIG, w.before _ s = true := fun w h => hts w (List.mem_cons_of_mem _ h)
  refine lv_iconst (v := 0) hx hb d_M_border_0 (by decide) ?_
  refine lv_istore_n (lv' := [(1, .int 0), (0, .ref x0)]) hx hb d_M_border_1 rfl hl (by decide) rfl (fun ls hl => ?_)
  refine lv_iconst (v := 0) hx hb d_M_border_2 (by decide) ?_
  refine lv_istore_n (lv' := [(2, .int 0), (1, .int 0), (0, .ref x0)]) hx hb d_M_border_3 rfl hl (by decide) rfl (fun ls hl => ?_)
  refine lv_iload_n hx hb d_M_border_4 rfl (lv_at hl 0 rfl) ?_
  refine lv_aload_n hx hb d_M_border_5 rfl (lv_at hl 2 rfl) ?_
  refine va_get (ci := 3) (v := .ref a0) (C := R_M) (T := T_M) (N := 10) hx hb ht in_M hown hK.1 hP 0 rfl rfl 1 (by decide) (ht _ k_fl_M_12) (fun _ h9 => h9) rfl d_M_border_6 ?_
  refine goRi (va_runV (As := []) (rest := [.int 0]) ⟨hx, hb, hml, hown, hts⟩ (c_A_size l D cI cL cO a0 d0 0 mo) (cwV 0 hts (gBIG (m4 k_ml_M_46 k_im_A_size k_sel_A_size k_ini_A) k_co_A_size) rfl rfl rfl (by decide +kernel) ⟨Nat.le_of_ble_eq_true rfl, Nat.le_of_ble_eq_true rfl⟩) ⟨PR.bl, va_recv hK.1 ((P_app.mp hP).2) (ci := 4) (q0 := 0) rfl rfl, PR.pre ((P_app.mp hP).2) hK⟩ rfl rfl hl.1 rfl (lv_room (Nat.le_of_ble_eq_true rfl)) d_M_border_9 ⟨Nat.le_of_ble_eq_true rfl, Nat.le_of_ble_eq_true rfl⟩) ?_
  refine lv_icmp_ge (tgt := 80) hx hb d_M_border_12 (by decide) (fun c_12 => ?_) (fun c_12 => ?_)
  · refine lv_iload_n hx hb d_M_border_80 rfl (lv_at hl 1 rfl) ?_
    rw [hQ]; exact retRi hx hb hr hlocks rfl d_M_border_81
  · exact absurd c_12 (by decide)

set_option maxHeartbeats 1000000 in
set_option maxRecDepth 100000 in
theorem c_M_next9 (l : Launch) (D : va_G) (cI cL cO : ClassId) (x0 : Nat) (lim : Int32) (a0 : Nat) (k0 : Nat) (u0 : Nat) (v0 : Nat) (t1 : Nat) (gen : Int32) (wrg : Int32) (rns : Int32) (als : Int32) (d0 : Nat) (mo : Int32) (fr : va_W) : CMi l y_M_next w_M_next ({ frames := 3, cells := 0, slots := 0, locals := 64 }) D cI cL cO [.ref x0] ((wX x0 lim a0 k0 u0 v0 t1 gen wrg rns als) ++ ((wH a0 d0 0 mo) ++ fr)) (fun (r : Int32) (u : Int32) => r = 0 ∧ u = gen + 1) (fun u : Int32 => ((wX x0 lim a0 k0 u0 v0 t1 u wrg rns als) ++ ((wH a0 d0 0 mo) ++ fr))) 0 0 := by
  refine ofMi (cc := b_M_next) (maxL := 5) (ret := (some .int)) (by decide) rfl (Nat.le_of_ble_eq_true rfl) ?_
  intro p e s m below meth c A ls H Q hQ hx hb hr hlocks hin hts hown hml hP hK hD hS hA hl
  have hl : lv_has ls 5 [(0, .ref x0)] := hl
  have hown : s.vm.findClass R_M = some m.cls := hown
  have ht : ∀ w ∈ BIG, w.before _ s = true := fun w h => hts w (List.mem_cons_of_mem _ h)
  refine lv_aload_n hx hb d_M_next_0 rfl (lv_at hl 0 rfl) ?_
  refine lv_dup hx hb d_M_next_1 rfl ?_
  refine va_get (ci := 3) (v := .int gen) (C := R_M) (T := T_M) (N := 10) hx hb ht in_M hown hK.1 hP 0 rfl rfl 6 (by decide) (ht _ k_fl_M_103) (fun _ h9 => h9) rfl d_M_next_2 ?_
  refine lv_iconst (v := 1) hx hb d_M_next_5 (by decide) ?_
  refine lv_iadd hx hb d_M_next_6 ?_
  refine va_put (ci := 3) (v := .int (gen + 1)) (ty := .int) (C := R_M) (T := T_M) (N := 10) hx hb ht in_M t_M t_M_ok n_M hown hK.1 hP hD hS 0 rfl rfl 6 (by decide) (ht _ k_fl_M_103) (fun _ h9 => h9) rfl (by decide +kernel) rfl rfl (Nat.le_of_ble_eq_true rfl) d_M_next_7 (fun H locs hP hD hS => ?_)
  have hP : va_P D vwCl ((wX x0 lim a0 k0 u0 v0 t1 (gen + 1) wrg rns als) ++ ((wH a0 d0 0 mo) ++ fr)) H := hP
  have hD : va_D A ((wX x0 lim a0 k0 u0 v0 t1 (gen + 1) wrg rns als) ++ ((wH a0 d0 0 mo) ++ fr)) := hD
  refine lv_aload_n hx hb d_M_next_10 rfl (lv_at hl 0 rfl) ?_
  refine goRi (va_runV (As := []) (rest := []) ⟨hx, hb, hml, hown, hts⟩ (c_M_oldestGeneration l D cI cL cO x0 lim a0 k0 u0 v0 t1 (gen + 1) wrg rns als) (cwV 0 hts (gBIG (m4 k_ml_M_143 k_im_M_oldestGeneration k_sel_M_oldestGeneration k_ini_M) k_co_M_oldestGeneration) rfl rfl rfl (by decide +kernel) ⟨Nat.le_of_ble_eq_true rfl, Nat.le_of_ble_eq_true rfl⟩) ⟨PR.bl, va_recv hK.1 ((P_app.mp hP).1) (ci := 3) (q0 := 0) rfl rfl, PR.pre ((P_app.mp hP).1) hK⟩ rfl rfl hl.1 rfl (lv_room (Nat.le_of_ble_eq_true rfl)) d_M_next_11 ⟨Nat.le_of_ble_eq_true rfl, Nat.le_of_ble_eq_true rfl⟩) ?_
  refine lv_istore_n (lv' := [(1, .int (maxF 0 ((gen + 1) - lim + 1))), (0, .ref x0)]) hx hb d_M_next_14 rfl hl (by decide) rfl (fun ls hl => ?_)
  refine lv_iconst (v := 0) hx hb d_M_next_15 (by decide) ?_
  refine lv_istore_n (lv' := [(2, .int 0), (1, .int (maxF 0 ((gen + 1) - lim + 1))), (0, .ref x0)]) hx hb d_M_next_16 rfl hl (by decide) rfl (fun ls hl => ?_)
  refine lv_iconst (v := 0) hx hb d_M_next_17 (by decide) ?_
  refine lv_istore_n (lv' := [(3, .int 0), (2, .int 0), (1, .int (maxF 0 ((gen + 1) - lim + 1))), (0, .ref x0)]) hx hb d_M_next_18 rfl hl (by decide) rfl (fun ls hl => ?_)
  refine lv_iload_n hx hb d_M_next_19 rfl (lv_at hl 0 rfl) ?_
  refine lv_aload_n hx hb d_M_next_20 rfl (lv_at hl 3 rfl) ?_
  refine va_get (ci := 3) (v := .ref a0) (C := R_M) (T := T_M) (N := 10) hx hb ht in_M hown hK.1 hP 0 rfl rfl 1 (by decide) (ht _ k_fl_M_12) (fun _ h9 => h9) rfl d_M_next_21 ?_
  refine goRi (va_runV (As := []) (rest := [.int 0]) ⟨hx, hb, hml, hown, hts⟩ (c_A_size l D cI cL cO a0 d0 0 mo) (cwV 0 hts (gBIG (m4 k_ml_M_46 k_im_A_size k_sel_A_size k_ini_A) k_co_A_size) rfl rfl rfl (by decide +kernel) ⟨Nat.le_of_ble_eq_true rfl, Nat.le_of_ble_eq_true rfl⟩) ⟨PR.bl, va_recv hK.1 ((P_app.mp (P_app.mp hP).2).1) (ci := 4) (q0 := 0) rfl rfl, PR.pre ((P_app.mp (P_app.mp hP).2).1) hK⟩ rfl rfl hl.1 rfl (lv_room (Nat.le_of_ble_eq_true rfl)) d_M_next_24 ⟨Nat.le_of_ble_eq_true rfl, Nat.le_of_ble_eq_true rfl⟩) ?_
  refine lv_icmp_ge (tgt := 74) hx hb d_M_next_27 (by decide) (fun c_27 => ?_) (fun c_27 => ?_)
  · refine lv_iload_n hx hb d_M_next_74 rfl (lv_at hl 1 rfl) ?_
    rw [hQ]; exact retMi (w1 := fun u : Int32 => ((wX x0 lim a0 k0 u0 v0 t1 u wrg rns als) ++ ((wH a0 d0 0 mo) ++ fr))) (gen + 1) hx hb hr hlocks hP hD hS ⟨rfl, rfl⟩ d_M_next_75
  · exact absurd c_27 (by decide)

set_option maxHeartbeats 1000000 in
set_option maxRecDepth 100000 in
theorem c_M_count9 (l : Launch) (D : va_G) (cI cL cO : ClassId) (x0 : Nat) (lim : Int32) (a0 : Nat) (k0 : Nat) (u0 : Nat) (v0 : Nat) (t1 : Nat) (gen : Int32) (wrg : Int32) (rns : Int32) (als : Int32) (d0 : Nat) (mo : Int32) (w : Int32) : CRi l y_M_count w_M_count ({ frames := 4, cells := 0, slots := 0, locals := 87 }) D cI cL cO [.ref x0, .int w] ((wX x0 lim a0 k0 u0 v0 t1 gen wrg rns als) ++ (wH a0 d0 0 mo)) (ctM0 w gen lim wrg rns als) := by
  refine ofR (cc := b_M_count) (maxL := 2) (ret := (some .int)) (by decide) rfl (Nat.le_of_ble_eq_true rfl) ?_
  intro p e s m below meth c ls Q hQ hx hb hr hlocks hts hown hml hP hK hl
  have hl : lv_has ls 2 [(0, .ref x0), (1, .int w)] := hl
  have hown : s.vm.findClass R_M = some m.cls := hown
  have ht : ∀ w ∈ BIG, w.before _ s = true := fun w h => hts w (List.mem_cons_of_mem _ h)
  refine lv_iload_n hx hb d_M_count_0 rfl (lv_at hl 1 rfl) ?_
  by_cases c_1_0 : w = 0
  · refine lv_tableIn (off := 51) (tgt := 52) hx hb d_M_count_1 (by rw [c_1_0]; decide) (by rw [c_1_0]; decide) (by rw [c_1_0] <;> rfl) (by decide) ?_
    refine lv_aload_n hx hb d_M_count_52 rfl (lv_at hl 0 rfl) ?_
    refine va_get (ci := 3) (v := .ref a0) (C := R_M) (T := T_M) (N := 10) hx hb ht in_M hown hK.1 hP 0 rfl rfl 1 (by decide) (ht _ k_fl_M_12) (fun _ h9 => h9) rfl d_M_count_53 ?_
    refine goRi (va_runV (As := []) (rest := []) ⟨hx, hb, hml, hown, hts⟩ (c_A_size l D cI cL cO a0 d0 0 mo) (cwV 0 hts (gBIG (m4 k_ml_M_46 k_im_A_size k_sel_A_size k_ini_A) k_co_A_size) rfl rfl rfl (by decide +kernel) ⟨Nat.le_of_ble_eq_true rfl, Nat.le_of_ble_eq_true rfl⟩) ⟨PR.bl, va_recv hK.1 ((P_app.mp hP).2) (ci := 4) (q0 := 0) rfl rfl, PR.pre ((P_app.mp hP).2) hK⟩ rfl rfl hl.1 rfl (lv_room (Nat.le_of_ble_eq_true rfl)) d_M_count_56 ⟨Nat.le_of_ble_eq_true rfl, Nat.le_of_ble_eq_true rfl⟩) ?_
    rw [hQ]; exact retRi hx hb hr hlocks (by first | (simp only [ctM0, if_pos c_1_0]; done) | simp [ctM0, c_1_0]) d_M_count_59
  by_cases c_1_1 : w = 1
  · refine lv_tableIn (off := 59) (tgt := 60) hx hb d_M_count_1 (by rw [c_1_1]; decide) (by rw [c_1_1]; decide) (by rw [c_1_1] <;> rfl) (by decide) ?_
    refine lv_aload_n hx hb d_M_count_60 rfl (lv_at hl 0 rfl) ?_
    refine va_get (ci := 3) (v := .int gen) (C := R_M) (T := T_M) (N := 10) hx hb ht in_M hown hK.1 hP 0 rfl rfl 6 (by decide) (ht _ k_fl_M_103) (fun _ h9 => h9) rfl d_M_count_61 ?_
    rw [hQ]; exact retRi hx hb hr hlocks (by first | (simp only [ctM0, if_neg c_1_0, if_pos c_1_1]; done) | simp [ctM0, c_1_0, c_1_1]) d_M_count_64
  by_cases c_1_2 : w = 2
  · refine lv_tableIn (off := 64) (tgt := 65) hx hb d_M_count_1 (by rw [c_1_2]; decide) (by rw [c_1_2]; decide) (by rw [c_1_2] <;> rfl) (by decide) ?_
    refine lv_aload_n hx hb d_M_count_65 rfl (lv_at hl 0 rfl) ?_
    refine goRi (va_runV (As := []) (rest := []) ⟨hx, hb, hml, hown, hts⟩ (c_M_oldestGeneration l D cI cL cO x0 lim a0 k0 u0 v0 t1 gen wrg rns als) (cwV 0 hts (gBIG (m4 k_ml_M_143 k_im_M_oldestGeneration k_sel_M_oldestGeneration k_ini_M) k_co_M_oldestGeneration) rfl rfl rfl (by decide +kernel) ⟨Nat.le_of_ble_eq_true rfl, Nat.le_of_ble_eq_true rfl⟩) ⟨PR.bl, va_recv hK.1 ((P_app.mp hP).1) (ci := 3) (q0 := 0) rfl rfl, PR.pre ((P_app.mp hP).1) hK⟩ rfl rfl hl.1 rfl (lv_room (Nat.le_of_ble_eq_true rfl)) d_M_count_66 ⟨Nat.le_of_ble_eq_true rfl, Nat.le_of_ble_eq_true rfl⟩) ?_
    rw [hQ]; exact retRi hx hb hr hlocks (by first | (simp only [ctM0, if_neg c_1_0, if_neg c_1_1, if_pos c_1_2]; done) | simp [ctM0, c_1_0, c_1_1, c_1_2]) d_M_count_69
  by_cases c_1_3 : w = 3
  · refine lv_tableIn (off := 69) (tgt := 70) hx hb d_M_count_1 (by rw [c_1_3]; decide) (by rw [c_1_3]; decide) (by rw [c_1_3] <;> rfl) (by decide) ?_
    refine lv_aload_n hx hb d_M_count_70 rfl (lv_at hl 0 rfl) ?_
    refine lv_iconst (v := 2) hx hb d_M_count_71 (by decide) ?_
    refine goRi (va_runV (As := [.int 2]) (rest := []) ⟨hx, hb, hml, hown, hts⟩ (c_M_blocksThatAre0 l D cI cL cO x0 lim a0 k0 u0 v0 t1 gen wrg rns als d0 mo 2) (cwV 1 hts (gBIG (m4 k_ml_M_184 k_im_M_blocksThatAre k_sel_M_blocksThatAre k_ini_M) k_co_M_blocksThatAre) rfl rfl rfl (by decide +kernel) ⟨Nat.le_of_ble_eq_true rfl, Nat.le_of_ble_eq_true rfl⟩) ⟨PR.bl, va_recv hK.1 (P_app.mpr ⟨(P_app.mp hP).1, (P_app.mp hP).2⟩) (ci := 3) (q0 := 0) rfl rfl, PR.pre (P_app.mpr ⟨(P_app.mp hP).1, (P_app.mp hP).2⟩) hK⟩ rfl rfl hl.1 rfl (lv_room (Nat.le_of_ble_eq_true rfl)) d_M_count_72 ⟨Nat.le_of_ble_eq_true rfl, Nat.le_of_ble_eq_true rfl⟩) ?_
    rw [hQ]; exact retRi hx hb hr hlocks (by first | (simp only [ctM0, if_neg c_1_0, if_neg c_1_1, if_neg c_1_2, if_pos c_1_3]; done) | simp [ctM0, c_1_0, c_1_1, c_1_2, c_1_3]) d_M_count_75
  by_cases c_1_4 : w = 4
  · refine lv_tableIn (off := 75) (tgt := 76) hx hb d_M_count_1 (by rw [c_1_4]; decide) (by rw [c_1_4]; decide) (by rw [c_1_4] <;> rfl) (by decide) ?_
    refine lv_aload_n hx hb d_M_count_76 rfl (lv_at hl 0 rfl) ?_
    refine lv_iconst (v := 1) hx hb d_M_count_77 (by decide) ?_
    refine goRi (va_runV (As := [.int 1]) (rest := []) ⟨hx, hb, hml, hown, hts⟩ (c_M_blocksThatAre0 l D cI cL cO x0 lim a0 k0 u0 v0 t1 gen wrg rns als d0 mo 1) (cwV 1 hts (gBIG (m4 k_ml_M_184 k_im_M_blocksThatAre k_sel_M_blocksThatAre k_ini_M) k_co_M_blocksThatAre) rfl rfl rfl (by decide +kernel) ⟨Nat.le_of_ble_eq_true rfl, Nat.le_of_ble_eq_true rfl⟩) ⟨PR.bl, va_recv hK.1 (P_app.mpr ⟨(P_app.mp hP).1, (P_app.mp hP).2⟩) (ci := 3) (q0 := 0) rfl rfl, PR.pre (P_app.mpr ⟨(P_app.mp hP).1, (P_app.mp hP).2⟩) hK⟩ rfl rfl hl.1 rfl (lv_room (Nat.le_of_ble_eq_true rfl)) d_M_count_78 ⟨Nat.le_of_ble_eq_true rfl, Nat.le_of_ble_eq_true rfl⟩) ?_
    rw [hQ]; exact retRi hx hb hr hlocks (by first | (simp only [ctM0, if_neg c_1_0, if_neg c_1_1, if_neg c_1_2, if_neg c_1_3, if_pos c_1_4]; done) | simp [ctM0, c_1_0, c_1_1, c_1_2, c_1_3, c_1_4]) d_M_count_81
  by_cases c_1_5 : w = 5
  · refine lv_tableIn (off := 81) (tgt := 82) hx hb d_M_count_1 (by rw [c_1_5]; decide) (by rw [c_1_5]; decide) (by rw [c_1_5] <;> rfl) (by decide) ?_
    refine lv_aload_n hx hb d_M_count_82 rfl (lv_at hl 0 rfl) ?_
    refine va_get (ci := 3) (v := .int wrg) (C := R_M) (T := T_M) (N := 10) hx hb ht in_M hown hK.1 hP 0 rfl rfl 7 (by decide) (ht _ k_fl_M_138) (fun _ h9 => h9) rfl d_M_count_83 ?_
    rw [hQ]; exact retRi hx hb hr hlocks (by first | (simp only [ctM0, if_neg c_1_0, if_neg c_1_1, if_neg c_1_2, if_neg c_1_3, if_neg c_1_4, if_pos c_1_5]; done) | simp [ctM0, c_1_0, c_1_1, c_1_2, c_1_3, c_1_4, c_1_5]) d_M_count_86
  by_cases c_1_6 : w = 6
  · refine lv_tableIn (off := 86) (tgt := 87) hx hb d_M_count_1 (by rw [c_1_6]; decide) (by rw [c_1_6]; decide) (by rw [c_1_6] <;> rfl) (by decide) ?_
    refine lv_aload_n hx hb d_M_count_87 rfl (lv_at hl 0 rfl) ?_
    refine va_get (ci := 3) (v := .int rns) (C := R_M) (T := T_M) (N := 10) hx hb ht in_M hown hK.1 hP 0 rfl rfl 8 (by decide) (ht _ k_fl_M_153) (fun _ h9 => h9) rfl d_M_count_88 ?_
    rw [hQ]; exact retRi hx hb hr hlocks (by first | (simp only [ctM0, if_neg c_1_0, if_neg c_1_1, if_neg c_1_2, if_neg c_1_3, if_neg c_1_4, if_neg c_1_5, if_pos c_1_6]; done) | simp [ctM0, c_1_0, c_1_1, c_1_2, c_1_3, c_1_4, c_1_5, c_1_6]) d_M_count_91
  by_cases c_1_7 : w = 7
  · refine lv_tableIn (off := 91) (tgt := 92) hx hb d_M_count_1 (by rw [c_1_7]; decide) (by rw [c_1_7]; decide) (by rw [c_1_7] <;> rfl) (by decide) ?_
    refine lv_aload_n hx hb d_M_count_92 rfl (lv_at hl 0 rfl) ?_
    refine va_get (ci := 3) (v := .int als) (C := R_M) (T := T_M) (N := 10) hx hb ht in_M hown hK.1 hP 0 rfl rfl 9 (by decide) (ht _ k_fl_M_156) (fun _ h9 => h9) rfl d_M_count_93 ?_
    rw [hQ]; exact retRi hx hb hr hlocks (by first | (simp only [ctM0, if_neg c_1_0, if_neg c_1_1, if_neg c_1_2, if_neg c_1_3, if_neg c_1_4, if_neg c_1_5, if_neg c_1_6, if_pos c_1_7]; done) | simp [ctM0, c_1_0, c_1_1, c_1_2, c_1_3, c_1_4, c_1_5, c_1_6, c_1_7]) d_M_count_96
  by_cases c_1_8 : w = 8
  · refine lv_tableIn (off := 96) (tgt := 97) hx hb d_M_count_1 (by rw [c_1_8]; decide) (by rw [c_1_8]; decide) (by rw [c_1_8] <;> rfl) (by decide) ?_
    refine lv_aload_n hx hb d_M_count_97 rfl (lv_at hl 0 rfl) ?_
    refine va_get (ci := 3) (v := .int lim) (C := R_M) (T := T_M) (N := 10) hx hb ht in_M hown hK.1 hP 0 rfl rfl 0 (by decide) (ht _ k_fl_M_42) (fun _ h9 => h9) rfl d_M_count_98 ?_
    rw [hQ]; exact retRi hx hb hr hlocks (by first | (simp only [ctM0, if_neg c_1_0, if_neg c_1_1, if_neg c_1_2, if_neg c_1_3, if_neg c_1_4, if_neg c_1_5, if_neg c_1_6, if_neg c_1_7, if_pos c_1_8]; done) | simp [ctM0, c_1_0, c_1_1, c_1_2, c_1_3, c_1_4, c_1_5, c_1_6, c_1_7, c_1_8]) d_M_count_101
  refine lv_tableOut (tgt := 102) hx hb d_M_count_1 (by have := lv_neT c_1_0 (show (0 : Int32).toInt = 0 by decide); have := lv_neT c_1_1 (show (1 : Int32).toInt = 1 by decide); have := lv_neT c_1_2 (show (2 : Int32).toInt = 2 by decide); have := lv_neT c_1_3 (show (3 : Int32).toInt = 3 by decide); have := lv_neT c_1_4 (show (4 : Int32).toInt = 4 by decide); have := lv_neT c_1_5 (show (5 : Int32).toInt = 5 by decide); have := lv_neT c_1_6 (show (6 : Int32).toInt = 6 by decide); have := lv_neT c_1_7 (show (7 : Int32).toInt = 7 by decide); have := lv_neT c_1_8 (show (8 : Int32).toInt = 8 by decide); omega) (by decide) ?_
  refine lv_iconst (v := (-1)) hx hb d_M_count_102 (by decide) ?_
  rw [hQ]; exact retRi hx hb hr hlocks (by first | (simp only [ctM0, if_neg c_1_0, if_neg c_1_1, if_neg c_1_2, if_neg c_1_3, if_neg c_1_4, if_neg c_1_5, if_neg c_1_6, if_neg c_1_7, if_neg c_1_8]; done) | simp [ctM0, c_1_0, c_1_1, c_1_2, c_1_3, c_1_4, c_1_5, c_1_6, c_1_7, c_1_8]) d_M_count_103

abbrev rm_M_border : Room := { frames := 5, cells := 0, slots := 0, locals := 112 }
abbrev rm_M_next : Room := { frames := 3, cells := 0, slots := 0, locals := 64 }
abbrev rm_M_count : Room := { frames := 4, cells := 0, slots := 0, locals := 87 }
theorem Met.conseq2 {l : Launch} {y : MethodName} {ws : List Cond} {rm : Room} {Pc Pc' : Array Value → State → Prop} {Qc Qc' : Array Value → State → Outcome → State → Prop} {mc ms : Nat} {free free' : Nat → Prop} (h : Met l y ws rm Pc Qc mc ms free) (hP : ∀ a s, Pc' a s → Pc a s) (hQ : ∀ a s o t, Pc' a s → Qc a s o t → Qc' a s o t) (hf : ∀ q, free q → free' q) : Met l y ws rm Pc' Qc' mc ms free' := by
  intro p e h1 h2 h3 s m args below h4 h5 h6 h7
  obtain ⟨n, o, a1, a2, a3, a4, L, a5, a6⟩ := h p e h1 h2 h3 s m args below h4 h5 (hP _ _ h6) h7
  exact ⟨n, o, a1, a2, a3, hQ _ _ _ _ h6 a4, L, a5, fun q hq => hf _ (a6 q hq)⟩
theorem CMi.toH {S S' : Type} {post : Int32 → S → Prop} {post' : Int32 → S' → Prop} {w1 : S → va_W} {w1' : S' → va_W} {l : Launch} {y : MethodName} {ws : List Cond} {rm : Room} {D : va_G} {cI cL cO : ClassId} {N t0 mi : Nat} {av : List Value} {w0 w0' : va_W} {mc ms : Nat}
    (h : CMi l y ws rm D cI cL cO av w0 post w1 mc ms) (hp : w0'.Perm w0) (hq : ∀ r u, post r u → ∃ u', post' r u' ∧ (w1 u).Perm (w1' u')) : CHi l y ws rm D cI cL cO N t0 mi av w0' post' w1' mc ms := by
  intro sz
  refine Met.conseq (h sz) ?_ ?_ (fun q => A_perm hp.symm)
  · intro a s ⟨h1, ⟨h2, h3, h4, h5, h6⟩, h7⟩
    exact ⟨h1, h2, P_perm hp h3, h4, (D_perm hp h5).weaken (fun _ _ _ _ => trivial)⟩
  · intro a s o t ⟨⟨r, u, h1, h2, h3, h4⟩, h5⟩
    obtain ⟨u', h6, h7⟩ := hq r u h2
    exact ⟨⟨r, u', h1, h6, P_perm h7 h3, (D_perm h7 h4).weaken (fun _ q _ h => A_perm hp.symm h)⟩, h5.mono (fun q => A_perm hp.symm)⟩
theorem CRi.toH {S' : Type} {post' : Int32 → S' → Prop} {w1' : S' → va_W} {v : Int32} {l : Launch} {y : MethodName} {ws : List Cond} {rm : Room} {D : va_G} {cI cL cO : ClassId} {N t0 mi : Nat} {av : List Value} {w0 w0' fr : va_W}
    (h : CRi l y ws rm D cI cL cO av w0 v) (hp : w0'.Perm (w0 ++ fr)) (u' : S') (hq : post' v u') (hw : w0'.Perm (w1' u')) : CHi l y ws rm D cI cL cO N t0 mi av w0' post' w1' 0 0 := by
  intro sz
  refine Met.conseq2 h ?_ ?_ (fun q h => h.elim)
  · intro a s ⟨h1, ⟨h2, h3, h4, h5, h6⟩, h7⟩
    exact ⟨h1, (P_app.mp (P_perm hp h3)).1, h4⟩
  · intro a s o t ⟨h1, ⟨h2, h3, h4, h5, h6⟩, h7⟩ ⟨r, h8, h9, h10⟩
    subst h9
    exact ⟨⟨r, u', h8, hq, by rw [h10]; exact P_perm hw h3, (D_perm hw h5.self)⟩, by rw [h10]; exact Nat.le_refl _, fun q _ _ => by rw [h10]⟩
theorem mem_pool (cI : ClassId) (bk : Nat → BK) {nb j : Nat} (hj : j < nb) : ∃ fs, ((bk j).1.1, (.inr (0, fs) : va_E)) ∈ poolW cI bk nb :=
  ⟨_, List.mem_flatMap.mpr ⟨j, List.mem_range.mpr hj, List.mem_cons_self⟩⟩
theorem rf_new {rf : Nat → Option Nat} {bk : Nat → BK} {nb k a : Nat} {z : BK} (h : ∀ j, j < nb → rf j = some (bk j).1.1) (hk : k = nb) (hz : z.1.1 = a) : ∀ j, j < nb + 1 → va_up rf k (some a) j = some (upB bk nb z j).1.1 := by
  intro j hj
  subst hk
  by_cases e : j = k
  · rw [e, upB_at, hz]; exact if_pos rfl
  · rw [upB_ne e]
    exact (if_neg e).trans (h j (by omega))
theorem rf_cpy {rf : Nat → Option Nat} {bk : Nat → BK} {cap : Nat} (h : ∀ j, j < cap → rf j = some (bk j).1.1) : ∀ j, j < cap → va_cpy rf (fun _ => none) 0 0 cap j = some (bk j).1.1 := by
  intro j hj
  rw [pk_cpy_in (by omega) (by omega)]
  simpa using h j hj

set_option maxHeartbeats 1000000 in
theorem h_block {l : Launch} {D : va_G} {cI cL cO : ClassId} {N t0 mi x0 : Nat} (hl0 : l.stackTraces = false) {lim gen wrg rns als : Int32} {nb : Nat} {bk : Nat → BK} {g : FL} {en bb : Int32} {w : va_W} (hw : CW cI cL cO t0 x0 lim gen wrg rns als nb bk g en bb w) (o0 : Nat) (og : FL) (fr : va_W) : CHi l y_L_block w_L_block rm_L_block D cI cL cO N t0 mi [.ref x0, .ref o0] (w ++ (wO cL o0 og ++ fr)) (fun (r : Int32) (u : va_W × FL × Nat × (Nat → BK)) => CW cI cL cO t0 x0 lim gen wrg rns als u.2.2.1 u.2.2.2 g en bb u.1 ∧ blO nb bk r (u.2.1 0) u.2.2.1 u.2.2.2) (fun u => u.1 ++ (wO cL o0 u.2.1 ++ fr)) 7 590 := by
  obtain ⟨a0, k0, k1, u0, u1, u2, v0, v1, v2, t1, t2, t3, dd, hg, su, pl, hg1, su1, en1, bb1, g1, p1, hg2, su2, en2, bb2, g2, p2, mo, d0, cap, rf, ⟨hnb, hlk⟩, hp⟩ := hw
  by_cases h24 : nb = 24
  · refine CHi.conv (c_L_blockU l D cI cL cO N t0 mi hl0 x0 lim a0 k0 u0 v0 t1 gen wrg rns als (if nb = 0 then t0 else d0) (nI nb) mo o0 og (wK k0 k1 ++ (wI3 cI k1 dd ++ (wU u0 u1 u2 hg su en bb ++ (wL4 cL u1 g ++ (wL4 cL u2 pl ++ (wU v0 v1 v2 hg1 su1 en1 bb1 ++ (wL4 cL v1 g1 ++ (wL4 cL v2 p1 ++ (wU t1 t2 t3 hg2 su2 en2 bb2 ++ (wL4 cL t2 g2 ++ (wL4 cL t3 p2 ++ (wTl cI cO d0 cap rf nb bk ++ fr)))))))))))) (by rw [h24]; decide)) (pcount (fun cnt ha hpm hc0 => by have z1 := hpm _ _ hp; simp only [wCo, wLi, wTl, wBk, ha] at z1 ⊢; omega)) (fun r u hq => ?_)
    exact ⟨((wCo cI cL x0 a0 k0 k1 u0 u1 u2 v0 v1 v2 t1 t2 t3 lim gen wrg rns als dd hg su en bb g pl hg1 su1 en1 bb1 g1 p1 hg2 su2 en2 bb2 g2 p2 ++ wLi cI cO t0 a0 mo d0 cap rf nb bk), og, nb, bk), ⟨⟨a0, k0, k1, u0, u1, u2, v0, v1, v2, t1, t2, t3, dd, hg, su, pl, hg1, su1, en1, bb1, g1, p1, hg2, su2, en2, bb2, g2, p2, mo, d0, cap, rf, ⟨hnb, hlk⟩, List.Perm.refl _⟩, Or.inl ⟨h24, hq, rfl, rfl⟩⟩, (pcount (fun cnt ha hpm hc0 => by simp only [wCo, wLi, wTl, wBk, ha] at ⊢; omega))⟩
  have hlt : nb < 24 := by omega
  have hsl : nI nb < 24 := nI_lt (a := nb) (b := 24) hlt (by decide)
  have hcl : (nI nb).toNatClampNeg = nb := nI_clamp (by omega)
  by_cases hne : nb = 0
  · have e0 : nI nb = 0 := by rw [hne]; rfl
    have ep : poolW cI bk nb = [] := by rw [hne]; rfl
    refine CHi.conv (c_L_blockf l D cI cL cO N t0 mi x0 lim a0 k0 u0 v0 t1 gen wrg rns als mo o0 og (wK k0 k1 ++ (wI3 cI k1 dd ++ (wU u0 u1 u2 hg su en bb ++ (wL4 cL u1 g ++ (wL4 cL u2 pl ++ (wU v0 v1 v2 hg1 su1 en1 bb1 ++ (wL4 cL v1 g1 ++ (wL4 cL v2 p1 ++ (wU t1 t2 t3 hg2 su2 en2 bb2 ++ (wL4 cL t2 g2 ++ (wL4 cL t3 p2 ++ fr))))))))))) (by decide)) (pcount (fun cnt ha hpm hc0 => by have z1 := hpm _ _ hp; simp only [wCo, wLi, wTl, wBk, ha, if_pos hne, hc0, e0] at z1 ⊢; omega)) (fun r u hq => ?_)
    obtain ⟨rfl, hv⟩ := hq
    exact ⟨((wCo cI cL x0 a0 k0 k1 u0 u1 u2 v0 v1 v2 t1 t2 t3 lim gen wrg rns als dd hg su en bb g pl hg1 su1 en1 bb1 g1 p1 hg2 su2 en2 bb2 g2 p2 ++ wLi cI cO t0 a0 (mo + 1) u.1.2.2.2.2.2.2 10 (va_up (fun _ => none) (0 : Int32).toNatClampNeg (some u.1.1)) (nb + 1) (upB bk nb ((u.1.1, u.1.2.1, u.1.2.2.1, u.1.2.2.2.1, u.1.2.2.2.2.1, u.1.2.2.2.2.2.1), (fun _ => 0, fun _ => 0, fun _ => 0, fun _ => 0, fun _ => 0), (0, 0, 0, -1)))), u.2, nb + 1, (upB bk nb ((u.1.1, u.1.2.1, u.1.2.2.1, u.1.2.2.2.1, u.1.2.2.2.2.1, u.1.2.2.2.2.2.1), (fun _ => 0, fun _ => 0, fun _ => 0, fun _ => 0, fun _ => 0), (0, 0, 0, -1)))), ⟨⟨a0, k0, k1, u0, u1, u2, v0, v1, v2, t1, t2, t3, dd, hg, su, pl, hg1, su1, en1, bb1, g1, p1, hg2, su2, en2, bb2, g2, p2, (mo + 1), u.1.2.2.2.2.2.2, 10, (va_up (fun _ => none) (0 : Int32).toNatClampNeg (some u.1.1)), ⟨show nb + 1 ≤ 24 by omega, Or.inr ⟨show nb + 1 ≤ 10 by omega, Or.inl rfl, rf_new (fun j hj => absurd hj (by omega)) (by rw [hne]; rfl) rfl⟩⟩, List.Perm.refl _⟩, Or.inr ⟨hlt, rfl, (by rw [e0]; exact hv), rfl, _, rfl⟩⟩, (pcount (fun cnt ha hpm hc0 => by have z2 := hpm _ _ (pool_new0 cI bk nb ((u.1.1, u.1.2.1, u.1.2.2.1, u.1.2.2.2.1, u.1.2.2.2.2.1, u.1.2.2.2.2.2.1), (fun _ => 0, fun _ => 0, fun _ => 0, fun _ => 0, fun _ => 0), (0, 0, 0, -1))); simp only [wCo, wLi, wTl, wBk, ha, if_pos hne, hc0, if_neg (Nat.succ_ne_zero nb), nI_succ, e0, ep] at z2 ⊢; omega))⟩
  rcases hlk with h | ⟨hcap, hc4, hrf⟩
  · exact absurd h hne
  by_cases hfull : nb = cap
  · have hel : elB rf cap (poolW cI bk nb ++ (wK k0 k1 ++ (wI3 cI k1 dd ++ (wU u0 u1 u2 hg su en bb ++ (wL4 cL u1 g ++ (wL4 cL u2 pl ++ (wU v0 v1 v2 hg1 su1 en1 bb1 ++ (wL4 cL v1 g1 ++ (wL4 cL v2 p1 ++ (wU t1 t2 t3 hg2 su2 en2 bb2 ++ (wL4 cL t2 g2 ++ (wL4 cL t3 p2 ++ fr)))))))))))) := fun j y hj hy => by
      obtain ⟨fs, h5⟩ := mem_pool cI bk (show j < nb by omega)
      have e5 : y = (bk j).1.1 := Option.some.inj (hy.symm.trans (hrf j (by omega)))
      exact ⟨fs, List.mem_append_left _ (by rw [e5]; exact h5)⟩
    have hrf9 := rf_cpy (cap := cap) (fun j hj => hrf j (by omega))
    have hc3 : (cap = 10 ∨ cap = 15 ∨ cap = 22) := by omega
    obtain ⟨cap2, ga, gb, gc, gd⟩ : ∃ cap2, cap ≤ cap2 ∧ nb + 1 ≤ cap2 ∧ (cap2 = 10 ∨ cap2 = 15 ∨ cap2 = 22 ∨ cap2 = 33) ∧ Int32.ofNat cap + maxF (nI nb + 1 - Int32.ofNat cap) (Int32.ofNat cap >>> ((1 : Int32) &&& 31)) = nI cap2 := by
      rw [hfull]
      rcases hc3 with rfl | rfl | rfl
      · exact ⟨15, by omega, by omega, by omega, by decide⟩
      · exact ⟨22, by omega, by omega, by omega, by decide⟩
      · exact ⟨33, by omega, by omega, by omega, by decide⟩
    refine CHi.conv (c_L_blockg l D cI cL cO N t0 mi x0 lim a0 k0 u0 v0 t1 gen wrg rns als d0 (nI nb) mo cap rf o0 og (poolW cI bk nb ++ (wK k0 k1 ++ (wI3 cI k1 dd ++ (wU u0 u1 u2 hg su en bb ++ (wL4 cL u1 g ++ (wL4 cL u2 pl ++ (wU v0 v1 v2 hg1 su1 en1 bb1 ++ (wL4 cL v1 g1 ++ (wL4 cL v2 p1 ++ (wU t1 t2 t3 hg2 su2 en2 bb2 ++ (wL4 cL t2 g2 ++ (wL4 cL t3 p2 ++ fr)))))))))))) hsl cap2 (by omega) ga (by omega) hel gd (by rw [hfull]; rfl) (vp_in_nI (by omega) (by omega))) (pcount (fun cnt ha hpm hc0 => by have z1 := hpm _ _ hp; simp only [wCo, wLi, wTl, wBk, ha, if_neg hne] at z1 ⊢; omega)) (fun r u hq => ?_)
    obtain ⟨rfl, hv⟩ := hq
    exact ⟨((wCo cI cL x0 a0 k0 k1 u0 u1 u2 v0 v1 v2 t1 t2 t3 lim gen wrg rns als dd hg su en bb g pl hg1 su1 en1 bb1 g1 p1 hg2 su2 en2 bb2 g2 p2 ++ wLi cI cO t0 a0 (mo + 1) u.1.2.2.2.2.2.2 cap2 (va_up (va_cpy rf (fun _ => none) 0 0 cap) (nI nb).toNatClampNeg (some u.1.1)) (nb + 1) (upB bk nb ((u.1.1, u.1.2.1, u.1.2.2.1, u.1.2.2.2.1, u.1.2.2.2.2.1, u.1.2.2.2.2.2.1), (fun _ => 0, fun _ => 0, fun _ => 0, fun _ => 0, fun _ => 0), (0, 0, 0, -1)))), u.2, nb + 1, (upB bk nb ((u.1.1, u.1.2.1, u.1.2.2.1, u.1.2.2.2.1, u.1.2.2.2.2.1, u.1.2.2.2.2.2.1), (fun _ => 0, fun _ => 0, fun _ => 0, fun _ => 0, fun _ => 0), (0, 0, 0, -1)))), ⟨⟨a0, k0, k1, u0, u1, u2, v0, v1, v2, t1, t2, t3, dd, hg, su, pl, hg1, su1, en1, bb1, g1, p1, hg2, su2, en2, bb2, g2, p2, (mo + 1), u.1.2.2.2.2.2.2, cap2, (va_up (va_cpy rf (fun _ => none) 0 0 cap) (nI nb).toNatClampNeg (some u.1.1)), ⟨show nb + 1 ≤ 24 by omega, Or.inr ⟨gb, gc, rf_new (fun j hj => hrf9 j (by omega)) hcl rfl⟩⟩, List.Perm.refl _⟩, Or.inr ⟨hlt, rfl, hv, rfl, _, rfl⟩⟩, (pcount (fun cnt ha hpm hc0 => by have z2 := hpm _ _ (pool_new0 cI bk nb ((u.1.1, u.1.2.1, u.1.2.2.1, u.1.2.2.2.1, u.1.2.2.2.2.1, u.1.2.2.2.2.2.1), (fun _ => 0, fun _ => 0, fun _ => 0, fun _ => 0, fun _ => 0), (0, 0, 0, -1))); simp only [wCo, wLi, wTl, wBk, ha, if_neg hne, if_neg (Nat.succ_ne_zero nb), nI_succ] at z2 ⊢; omega))⟩
  · refine CHi.conv (c_L_block l D cI cL cO N t0 mi x0 lim a0 k0 u0 v0 t1 gen wrg rns als d0 (nI nb) mo cap rf o0 og (poolW cI bk nb ++ (wK k0 k1 ++ (wI3 cI k1 dd ++ (wU u0 u1 u2 hg su en bb ++ (wL4 cL u1 g ++ (wL4 cL u2 pl ++ (wU v0 v1 v2 hg1 su1 en1 bb1 ++ (wL4 cL v1 g1 ++ (wL4 cL v2 p1 ++ (wU t1 t2 t3 hg2 su2 en2 bb2 ++ (wL4 cL t2 g2 ++ (wL4 cL t3 p2 ++ fr)))))))))))) hsl (fun h => hfull (by have h9 := congrArg Int32.toNatClampNeg h; rw [hcl] at h9; exact h9.trans (nI_clamp (n := cap) (by omega)))) (vp_in_nI (by omega) (by omega))) (pcount (fun cnt ha hpm hc0 => by have z1 := hpm _ _ hp; simp only [wCo, wLi, wTl, wBk, ha, if_neg hne] at z1 ⊢; omega)) (fun r u hq => ?_)
    obtain ⟨rfl, hv⟩ := hq
    exact ⟨((wCo cI cL x0 a0 k0 k1 u0 u1 u2 v0 v1 v2 t1 t2 t3 lim gen wrg rns als dd hg su en bb g pl hg1 su1 en1 bb1 g1 p1 hg2 su2 en2 bb2 g2 p2 ++ wLi cI cO t0 a0 (mo + 1) d0 cap (va_up rf (nI nb).toNatClampNeg (some u.1.1)) (nb + 1) (upB bk nb ((u.1.1, u.1.2.1, u.1.2.2.1, u.1.2.2.2.1, u.1.2.2.2.2.1, u.1.2.2.2.2.2), (fun _ => 0, fun _ => 0, fun _ => 0, fun _ => 0, fun _ => 0), (0, 0, 0, -1)))), u.2, nb + 1, (upB bk nb ((u.1.1, u.1.2.1, u.1.2.2.1, u.1.2.2.2.1, u.1.2.2.2.2.1, u.1.2.2.2.2.2), (fun _ => 0, fun _ => 0, fun _ => 0, fun _ => 0, fun _ => 0), (0, 0, 0, -1)))), ⟨⟨a0, k0, k1, u0, u1, u2, v0, v1, v2, t1, t2, t3, dd, hg, su, pl, hg1, su1, en1, bb1, g1, p1, hg2, su2, en2, bb2, g2, p2, (mo + 1), d0, cap, (va_up rf (nI nb).toNatClampNeg (some u.1.1)), ⟨show nb + 1 ≤ 24 by omega, Or.inr ⟨show nb + 1 ≤ cap by omega, hc4, rf_new hrf hcl rfl⟩⟩, List.Perm.refl _⟩, Or.inr ⟨hlt, rfl, hv, rfl, _, rfl⟩⟩, (pcount (fun cnt ha hpm hc0 => by have z2 := hpm _ _ (pool_new0 cI bk nb ((u.1.1, u.1.2.1, u.1.2.2.1, u.1.2.2.2.1, u.1.2.2.2.2.1, u.1.2.2.2.2.2), (fun _ => 0, fun _ => 0, fun _ => 0, fun _ => 0, fun _ => 0), (0, 0, 0, -1))); simp only [wCo, wLi, wTl, wBk, ha, if_neg hne, if_neg (Nat.succ_ne_zero nb), nI_succ] at z2 ⊢; omega))⟩
set_option maxHeartbeats 1000000 in
theorem h_count {l : Launch} {D : va_G} {cI cL cO : ClassId} {N t0 mi x0 : Nat} {lim gen wrg rns als : Int32} {nb : Nat} {bk : Nat → BK} {g : FL} {en bb : Int32} {w : va_W} (hw : CW cI cL cO t0 x0 lim gen wrg rns als nb bk g en bb w) (fr : va_W) (x : Int32) : CHi l y_M_count w_M_count rm_M_count D cI cL cO N t0 mi [.ref x0, .int x] (w ++ fr) (fun (r : Int32) (u : va_W × Unit) => CW cI cL cO t0 x0 lim gen wrg rns als nb bk g en bb u.1 ∧ r = ctM x (nI nb) gen lim wrg rns als (saB bk)) (fun u => u.1 ++ fr) 0 0 := by
  obtain ⟨a0, k0, k1, u0, u1, u2, v0, v1, v2, t1, t2, t3, dd, hg, su, pl, hg1, su1, en1, bb1, g1, p1, hg2, su2, en2, bb2, g2, p2, mo, d0, cap, rf, ⟨hnb, hlk⟩, hp⟩ := hw
  by_cases hne : nb = 0
  · have e0 : nI nb = 0 := by rw [hne]; rfl
    refine CRi.toH (fr := (wK k0 k1 ++ (wI3 cI k1 dd ++ (wU u0 u1 u2 hg su en bb ++ (wL4 cL u1 g ++ (wL4 cL u2 pl ++ (wU v0 v1 v2 hg1 su1 en1 bb1 ++ (wL4 cL v1 g1 ++ (wL4 cL v2 p1 ++ (wU t1 t2 t3 hg2 su2 en2 bb2 ++ (wL4 cL t2 g2 ++ (wL4 cL t3 p2 ++ fr)))))))))))) (c_M_count9 l D cI cL cO x0 lim a0 k0 u0 v0 t1 gen wrg rns als t0 mo x) (pcount (fun cnt ha hpm hc0 => by have z1 := hpm _ _ hp; simp only [wCo, wLi, wTl, wBk, ha, if_pos hne, hc0, e0] at z1 ⊢; omega)) (w, ()) ⟨⟨a0, k0, k1, u0, u1, u2, v0, v1, v2, t1, t2, t3, dd, hg, su, pl, hg1, su1, en1, bb1, g1, p1, hg2, su2, en2, bb2, g2, p2, mo, d0, cap, rf, ⟨hnb, hlk⟩, hp⟩, ?_⟩ (List.Perm.refl _)
    rw [e0]; rfl
  rcases hlk with h | ⟨hcap, hc4, hrf⟩
  · exact absurd h hne
  refine CRi.toH (fr := (wK k0 k1 ++ (wI3 cI k1 dd ++ (wU u0 u1 u2 hg su en bb ++ (wL4 cL u1 g ++ (wL4 cL u2 pl ++ (wU v0 v1 v2 hg1 su1 en1 bb1 ++ (wL4 cL v1 g1 ++ (wL4 cL v2 p1 ++ (wU t1 t2 t3 hg2 su2 en2 bb2 ++ (wL4 cL t2 g2 ++ (wL4 cL t3 p2 ++ fr)))))))))))) (c_M_count l D cI cL cO x0 lim a0 k0 u0 v0 t1 gen wrg rns als d0 (nI nb) mo cap rf bk nb x rfl hnb hcap hrf) (pcount (fun cnt ha hpm hc0 => by have z1 := hpm _ _ hp; simp only [wCo, wLi, wTl, wBk, ha, if_neg hne] at z1 ⊢; omega)) (w, ()) ⟨⟨a0, k0, k1, u0, u1, u2, v0, v1, v2, t1, t2, t3, dd, hg, su, pl, hg1, su1, en1, bb1, g1, p1, hg2, su2, en2, bb2, g2, p2, mo, d0, cap, rf, ⟨hnb, Or.inr ⟨hcap, hc4, hrf⟩⟩, hp⟩, rfl⟩ (List.Perm.refl _)
theorem rf_same {rf : Nat → Option Nat} {bk bk' : Nat → BK} {nb : Nat} (h : ∀ j, j < nb → rf j = some (bk j).1.1) (e : ∀ j, (bk' j).1 = (bk j).1) : ∀ j, j < nb → rf j = some (bk' j).1.1 := fun j hj => by rw [e j]; exact h j hj
theorem upB_ad {bk : Nat → BK} {i : Nat} {z : BK} (h : z.1 = (bk i).1) : ∀ j, (upB bk i z j).1 = (bk j).1 := fun j => by
  unfold upB
  split
  · rename_i e; rw [e]; exact h
  · rfl
theorem nbL_ad0 (old sz : Int32) : ∀ (n : Nat) (i q : Int32) (bk : Nat → BK) (j : Nat), ((nbL old sz n i q bk).2 j).1 = (bk j).1 := by
  intro n
  induction n with
  | zero => intro i q bk j; rfl
  | succ n ih =>
    intro i q bk j
    unfold nbL
    split
    · rfl
    · split
      · exact ih _ _ _ _
      · split
        · exact ih _ _ _ _
        · exact (ih _ _ _ _).trans (upB_ad (bk := bk) (i := i.toNatClampNeg) (z := rowsB (bk i.toNatClampNeg)) rfl j)
theorem nbL_ad {old sz r : Int32} {bk bk' : Nat → BK} (h : (r, bk') = nbL old sz 25 0 0 bk) : ∀ j, (bk' j).1 = (bk j).1 := fun j => by
  have := nbL_ad0 old sz 25 0 0 bk j
  rw [← h] at this
  exact this
theorem bdL_ad0 (sz : Int32) : ∀ (n : Nat) (i q w : Int32) (bk : Nat → BK) (j : Nat), ((bdL sz n i q w bk).2.2 j).1 = (bk j).1 := by
  intro n
  induction n with
  | zero => intro i q w bk j; rfl
  | succ n ih =>
    intro i q w bk j
    unfold bdL
    split
    · rfl
    · split
      · split
        · exact (ih _ _ _ _ _).trans (upB_ad (bk := bk) (i := i.toNatClampNeg) (z := stB (bk i.toNatClampNeg) 2) rfl j)
        · exact (ih _ _ _ _ _).trans (upB_ad (bk := bk) (i := i.toNatClampNeg) (z := rowsB (bk i.toNatClampNeg)) rfl j)
      · exact ih _ _ _ _ _
theorem bdL_ad {sz r wrg w' : Int32} {bk bk' : Nat → BK} (h : (r, w', bk') = bdL sz 25 0 0 wrg bk) : ∀ j, (bk' j).1 = (bk j).1 := fun j => by
  have := bdL_ad0 sz 25 0 0 wrg bk j
  rw [← h] at this
  exact this

set_option maxHeartbeats 1000000 in
theorem h_next {l : Launch} {D : va_G} {cI cL cO : ClassId} {N t0 mi x0 : Nat} {lim gen wrg rns als : Int32} {nb : Nat} {bk : Nat → BK} {g : FL} {en bb : Int32} {w : va_W} (hw : CW cI cL cO t0 x0 lim gen wrg rns als nb bk g en bb w) (fr : va_W)  : CHi l y_M_next w_M_next rm_M_next D cI cL cO N t0 mi [.ref x0] (w ++ fr) (fun (r : Int32) (u : va_W × Int32 × (Nat → BK)) => CW cI cL cO t0 x0 lim u.2.1 wrg rns als nb u.2.2 g en bb u.1 ∧ (r, u.2.2) = nbL (maxF 0 (gen + 1 - lim + 1)) (nI nb) 25 0 0 bk ∧ u.2.1 = gen + 1) (fun u => u.1 ++ fr) 0 0 := by
  obtain ⟨a0, k0, k1, u0, u1, u2, v0, v1, v2, t1, t2, t3, dd, hg, su, pl, hg1, su1, en1, bb1, g1, p1, hg2, su2, en2, bb2, g2, p2, mo, d0, cap, rf, ⟨hnb, hlk⟩, hp⟩ := hw
  by_cases hne : nb = 0
  · have e0 : nI nb = 0 := by rw [hne]; rfl
    refine CMi.toH (c_M_next9 l D cI cL cO x0 lim a0 k0 u0 v0 t1 gen wrg rns als t0 mo (wK k0 k1 ++ (wI3 cI k1 dd ++ (wU u0 u1 u2 hg su en bb ++ (wL4 cL u1 g ++ (wL4 cL u2 pl ++ (wU v0 v1 v2 hg1 su1 en1 bb1 ++ (wL4 cL v1 g1 ++ (wL4 cL v2 p1 ++ (wU t1 t2 t3 hg2 su2 en2 bb2 ++ (wL4 cL t2 g2 ++ (wL4 cL t3 p2 ++ fr)))))))))))) (pcount (fun cnt ha hpm hc0 => by have z1 := hpm _ _ hp; simp only [wCo, wLi, wTl, wBk, ha, if_pos hne, hc0, e0] at z1 ⊢; omega)) (fun r u hq => ?_)
    obtain ⟨rfl, rfl⟩ := hq
    exact ⟨((wCo cI cL x0 a0 k0 k1 u0 u1 u2 v0 v1 v2 t1 t2 t3 lim (gen + 1) wrg rns als dd hg su en bb g pl hg1 su1 en1 bb1 g1 p1 hg2 su2 en2 bb2 g2 p2 ++ wLi cI cO t0 a0 mo d0 cap rf nb bk), gen + 1, bk), ⟨⟨a0, k0, k1, u0, u1, u2, v0, v1, v2, t1, t2, t3, dd, hg, su, pl, hg1, su1, en1, bb1, g1, p1, hg2, su2, en2, bb2, g2, p2, mo, d0, cap, rf, ⟨hnb, hlk⟩, List.Perm.refl _⟩, by rw [e0]; rfl, rfl⟩, (pcount (fun cnt ha hpm hc0 => by simp only [wCo, wLi, wTl, wBk, ha, if_pos hne, hc0, e0]; omega))⟩
  rcases hlk with h | ⟨hcap, hc4, hrf⟩
  · exact absurd h hne
  refine CMi.toH (c_M_next l D cI cL cO x0 lim a0 k0 u0 v0 t1 gen wrg rns als d0 (nI nb) mo cap rf bk nb (wK k0 k1 ++ (wI3 cI k1 dd ++ (wU u0 u1 u2 hg su en bb ++ (wL4 cL u1 g ++ (wL4 cL u2 pl ++ (wU v0 v1 v2 hg1 su1 en1 bb1 ++ (wL4 cL v1 g1 ++ (wL4 cL v2 p1 ++ (wU t1 t2 t3 hg2 su2 en2 bb2 ++ (wL4 cL t2 g2 ++ (wL4 cL t3 p2 ++ fr))))))))))) rfl hnb hcap hrf) (pcount (fun cnt ha hpm hc0 => by have z1 := hpm _ _ hp; simp only [wCo, wLi, wTl, wBk, ha, if_neg hne] at z1 ⊢; omega)) (fun r u hq => ?_)
  exact ⟨((wCo cI cL x0 a0 k0 k1 u0 u1 u2 v0 v1 v2 t1 t2 t3 lim u.1 wrg rns als dd hg su en bb g pl hg1 su1 en1 bb1 g1 p1 hg2 su2 en2 bb2 g2 p2 ++ wLi cI cO t0 a0 mo d0 cap rf nb u.2), u.1, u.2), ⟨⟨a0, k0, k1, u0, u1, u2, v0, v1, v2, t1, t2, t3, dd, hg, su, pl, hg1, su1, en1, bb1, g1, p1, hg2, su2, en2, bb2, g2, p2, mo, d0, cap, rf, ⟨hnb, Or.inr ⟨hcap, hc4, rf_same hrf (nbL_ad hq.1)⟩⟩, List.Perm.refl _⟩, hq⟩, (pcount (fun cnt ha hpm hc0 => by simp only [wCo, wLi, wTl, wBk, ha, if_neg hne]; omega))⟩
set_option maxHeartbeats 1000000 in
theorem h_border {l : Launch} {D : va_G} {cI cL cO : ClassId} {N t0 mi x0 : Nat} {lim gen wrg rns als : Int32} {nb : Nat} {bk : Nat → BK} {g : FL} {en bb : Int32} {w : va_W} (hw : CW cI cL cO t0 x0 lim gen wrg rns als nb bk g en bb w) (fr : va_W)  : CHi l y_M_border w_M_border rm_M_border D cI cL cO N t0 mi [.ref x0] (w ++ fr) (fun (r : Int32) (u : va_W × Int32 × (Nat → BK)) => CW cI cL cO t0 x0 lim gen u.2.1 rns als nb u.2.2 g en bb u.1 ∧ (r, u.2.1, u.2.2) = bdL (nI nb) 25 0 0 wrg bk) (fun u => u.1 ++ fr) 0 0 := by
  obtain ⟨a0, k0, k1, u0, u1, u2, v0, v1, v2, t1, t2, t3, dd, hg, su, pl, hg1, su1, en1, bb1, g1, p1, hg2, su2, en2, bb2, g2, p2, mo, d0, cap, rf, ⟨hnb, hlk⟩, hp⟩ := hw
  by_cases hne : nb = 0
  · have e0 : nI nb = 0 := by rw [hne]; rfl
    refine CRi.toH (fr := (wK k0 k1 ++ (wI3 cI k1 dd ++ (wU u0 u1 u2 hg su en bb ++ (wL4 cL u1 g ++ (wL4 cL u2 pl ++ (wU v0 v1 v2 hg1 su1 en1 bb1 ++ (wL4 cL v1 g1 ++ (wL4 cL v2 p1 ++ (wU t1 t2 t3 hg2 su2 en2 bb2 ++ (wL4 cL t2 g2 ++ (wL4 cL t3 p2 ++ fr)))))))))))) (c_M_border9 l D cI cL cO x0 lim a0 k0 u0 v0 t1 gen wrg rns als t0 mo) (pcount (fun cnt ha hpm hc0 => by have z1 := hpm _ _ hp; simp only [wCo, wLi, wTl, wBk, ha, if_pos hne, hc0, e0] at z1 ⊢; omega)) (w, wrg, bk) ⟨⟨a0, k0, k1, u0, u1, u2, v0, v1, v2, t1, t2, t3, dd, hg, su, pl, hg1, su1, en1, bb1, g1, p1, hg2, su2, en2, bb2, g2, p2, mo, d0, cap, rf, ⟨hnb, hlk⟩, hp⟩, ?_⟩ (List.Perm.refl _)
    rw [e0]; rfl
  rcases hlk with h | ⟨hcap, hc4, hrf⟩
  · exact absurd h hne
  refine CMi.toH (c_M_border l D cI cL cO x0 lim a0 k0 u0 v0 t1 gen wrg rns als d0 (nI nb) mo cap rf k1 dd bk nb (wU u0 u1 u2 hg su en bb ++ (wL4 cL u1 g ++ (wL4 cL u2 pl ++ (wU v0 v1 v2 hg1 su1 en1 bb1 ++ (wL4 cL v1 g1 ++ (wL4 cL v2 p1 ++ (wU t1 t2 t3 hg2 su2 en2 bb2 ++ (wL4 cL t2 g2 ++ (wL4 cL t3 p2 ++ fr))))))))) rfl hnb hcap hrf) (pcount (fun cnt ha hpm hc0 => by have z1 := hpm _ _ hp; simp only [wCo, wLi, wTl, wBk, ha, if_neg hne] at z1 ⊢; omega)) (fun r u hq => ?_)
  exact ⟨((wCo cI cL x0 a0 k0 k1 u0 u1 u2 v0 v1 v2 t1 t2 t3 lim gen u.1 rns als u.2.1 hg su en bb g pl hg1 su1 en1 bb1 g1 p1 hg2 su2 en2 bb2 g2 p2 ++ wLi cI cO t0 a0 mo d0 cap rf nb u.2.2), u.1, u.2.2), ⟨⟨a0, k0, k1, u0, u1, u2, v0, v1, v2, t1, t2, t3, u.2.1, hg, su, pl, hg1, su1, en1, bb1, g1, p1, hg2, su2, en2, bb2, g2, p2, mo, d0, cap, rf, ⟨hnb, Or.inr ⟨hcap, hc4, rf_same hrf (bdL_ad hq)⟩⟩, List.Perm.refl _⟩, hq⟩, (pcount (fun cnt ha hpm hc0 => by simp only [wCo, wLi, wTl, wBk, ha, if_neg hne]; omega))⟩
