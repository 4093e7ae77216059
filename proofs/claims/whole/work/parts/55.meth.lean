theorem P_sw4 {D : va_G} {cl : List vw_C} {x0 x1 x2 x3 a b c : va_W} {H : Heap} (h : va_P D cl (x0 ++ (x1 ++ (x2 ++ (x3 ++ (a ++ (b ++ c)))))) H) : va_P D cl (x0 ++ (x1 ++ (x2 ++ (x3 ++ (b ++ (a ++ c)))))) H := P_perm (((((List.perm_append_comm_assoc a b c).append_left x3).append_left x2).append_left x1).append_left x0) h
theorem D_sw4 {A : Nat → Prop} {x0 x1 x2 x3 a b c : va_W} (h : va_D A (x0 ++ (x1 ++ (x2 ++ (x3 ++ (a ++ (b ++ c))))))) : va_D A (x0 ++ (x1 ++ (x2 ++ (x3 ++ (b ++ (a ++ c)))))) := D_perm (((((List.perm_append_comm_assoc a b c).append_left x3).append_left x2).append_left x1).append_left x0) h
theorem P_sw5 {D : va_G} {cl : List vw_C} {x0 x1 x2 x3 x4 a b c : va_W} {H : Heap} (h : va_P D cl (x0 ++ (x1 ++ (x2 ++ (x3 ++ (x4 ++ (a ++ (b ++ c))))))) H) : va_P D cl (x0 ++ (x1 ++ (x2 ++ (x3 ++ (x4 ++ (b ++ (a ++ c))))))) H := P_perm ((((((List.perm_append_comm_assoc a b c).append_left x4).append_left x3).append_left x2).append_left x1).append_left x0) h
theorem D_sw5 {A : Nat → Prop} {x0 x1 x2 x3 x4 a b c : va_W} (h : va_D A (x0 ++ (x1 ++ (x2 ++ (x3 ++ (x4 ++ (a ++ (b ++ c)))))))) : va_D A (x0 ++ (x1 ++ (x2 ++ (x3 ++ (x4 ++ (b ++ (a ++ c))))))) := D_perm ((((((List.perm_append_comm_assoc a b c).append_left x4).append_left x3).append_left x2).append_left x1).append_left x0) h
theorem P_sw6 {D : va_G} {cl : List vw_C} {x0 x1 x2 x3 x4 x5 a b c : va_W} {H : Heap} (h : va_P D cl (x0 ++ (x1 ++ (x2 ++ (x3 ++ (x4 ++ (x5 ++ (a ++ (b ++ c)))))))) H) : va_P D cl (x0 ++ (x1 ++ (x2 ++ (x3 ++ (x4 ++ (x5 ++ (b ++ (a ++ c)))))))) H := P_perm (((((((List.perm_append_comm_assoc a b c).append_left x5).append_left x4).append_left x3).append_left x2).append_left x1).append_left x0) h
theorem D_sw6 {A : Nat → Prop} {x0 x1 x2 x3 x4 x5 a b c : va_W} (h : va_D A (x0 ++ (x1 ++ (x2 ++ (x3 ++ (x4 ++ (x5 ++ (a ++ (b ++ c))))))))) : va_D A (x0 ++ (x1 ++ (x2 ++ (x3 ++ (x4 ++ (x5 ++ (b ++ (a ++ c)))))))) := D_perm (((((((List.perm_append_comm_assoc a b c).append_left x5).append_left x4).append_left x3).append_left x2).append_left x1).append_left x0) h
theorem P_sw7 {D : va_G} {cl : List vw_C} {x0 x1 x2 x3 x4 x5 x6 a b c : va_W} {H : Heap} (h : va_P D cl (x0 ++ (x1 ++ (x2 ++ (x3 ++ (x4 ++ (x5 ++ (x6 ++ (a ++ (b ++ c))))))))) H) : va_P D cl (x0 ++ (x1 ++ (x2 ++ (x3 ++ (x4 ++ (x5 ++ (x6 ++ (b ++ (a ++ c))))))))) H := P_perm ((((((((List.perm_append_comm_assoc a b c).append_left x6).append_left x5).append_left x4).append_left x3).append_left x2).append_left x1).append_left x0) h
theorem D_sw7 {A : Nat → Prop} {x0 x1 x2 x3 x4 x5 x6 a b c : va_W} (h : va_D A (x0 ++ (x1 ++ (x2 ++ (x3 ++ (x4 ++ (x5 ++ (x6 ++ (a ++ (b ++ c)))))))))) : va_D A (x0 ++ (x1 ++ (x2 ++ (x3 ++ (x4 ++ (x5 ++ (x6 ++ (b ++ (a ++ c))))))))) := D_perm ((((((((List.perm_append_comm_assoc a b c).append_left x6).append_left x5).append_left x4).append_left x3).append_left x2).append_left x1).append_left x0) h
theorem P_sw8 {D : va_G} {cl : List vw_C} {x0 x1 x2 x3 x4 x5 x6 x7 a b c : va_W} {H : Heap} (h : va_P D cl (x0 ++ (x1 ++ (x2 ++ (x3 ++ (x4 ++ (x5 ++ (x6 ++ (x7 ++ (a ++ (b ++ c)))))))))) H) : va_P D cl (x0 ++ (x1 ++ (x2 ++ (x3 ++ (x4 ++ (x5 ++ (x6 ++ (x7 ++ (b ++ (a ++ c)))))))))) H := P_perm (((((((((List.perm_append_comm_assoc a b c).append_left x7).append_left x6).append_left x5).append_left x4).append_left x3).append_left x2).append_left x1).append_left x0) h
theorem D_sw8 {A : Nat → Prop} {x0 x1 x2 x3 x4 x5 x6 x7 a b c : va_W} (h : va_D A (x0 ++ (x1 ++ (x2 ++ (x3 ++ (x4 ++ (x5 ++ (x6 ++ (x7 ++ (a ++ (b ++ c))))))))))) : va_D A (x0 ++ (x1 ++ (x2 ++ (x3 ++ (x4 ++ (x5 ++ (x6 ++ (x7 ++ (b ++ (a ++ c)))))))))) := D_perm (((((((((List.perm_append_comm_assoc a b c).append_left x7).append_left x6).append_left x5).append_left x4).append_left x3).append_left x2).append_left x1).append_left x0) h
theorem P_sw9 {D : va_G} {cl : List vw_C} {x0 x1 x2 x3 x4 x5 x6 x7 x8 a b c : va_W} {H : Heap} (h : va_P D cl (x0 ++ (x1 ++ (x2 ++ (x3 ++ (x4 ++ (x5 ++ (x6 ++ (x7 ++ (x8 ++ (a ++ (b ++ c))))))))))) H) : va_P D cl (x0 ++ (x1 ++ (x2 ++ (x3 ++ (x4 ++ (x5 ++ (x6 ++ (x7 ++ (x8 ++ (b ++ (a ++ c))))))))))) H := P_perm ((((((((((List.perm_append_comm_assoc a b c).append_left x8).append_left x7).append_left x6).append_left x5).append_left x4).append_left x3).append_left x2).append_left x1).append_left x0) h
theorem D_sw9 {A : Nat → Prop} {x0 x1 x2 x3 x4 x5 x6 x7 x8 a b c : va_W} (h : va_D A (x0 ++ (x1 ++ (x2 ++ (x3 ++ (x4 ++ (x5 ++ (x6 ++ (x7 ++ (x8 ++ (a ++ (b ++ c)))))))))))) : va_D A (x0 ++ (x1 ++ (x2 ++ (x3 ++ (x4 ++ (x5 ++ (x6 ++ (x7 ++ (x8 ++ (b ++ (a ++ c))))))))))) := D_perm ((((((((((List.perm_append_comm_assoc a b c).append_left x8).append_left x7).append_left x6).append_left x5).append_left x4).append_left x3).append_left x2).append_left x1).append_left x0) h
theorem P_sw10 {D : va_G} {cl : List vw_C} {x0 x1 x2 x3 x4 x5 x6 x7 x8 x9 a b c : va_W} {H : Heap} (h : va_P D cl (x0 ++ (x1 ++ (x2 ++ (x3 ++ (x4 ++ (x5 ++ (x6 ++ (x7 ++ (x8 ++ (x9 ++ (a ++ (b ++ c)))))))))))) H) : va_P D cl (x0 ++ (x1 ++ (x2 ++ (x3 ++ (x4 ++ (x5 ++ (x6 ++ (x7 ++ (x8 ++ (x9 ++ (b ++ (a ++ c)))))))))))) H := P_perm (((((((((((List.perm_append_comm_assoc a b c).append_left x9).append_left x8).append_left x7).append_left x6).append_left x5).append_left x4).append_left x3).append_left x2).append_left x1).append_left x0) h
theorem D_sw10 {A : Nat → Prop} {x0 x1 x2 x3 x4 x5 x6 x7 x8 x9 a b c : va_W} (h : va_D A (x0 ++ (x1 ++ (x2 ++ (x3 ++ (x4 ++ (x5 ++ (x6 ++ (x7 ++ (x8 ++ (x9 ++ (a ++ (b ++ c))))))))))))) : va_D A (x0 ++ (x1 ++ (x2 ++ (x3 ++ (x4 ++ (x5 ++ (x6 ++ (x7 ++ (x8 ++ (x9 ++ (b ++ (a ++ c)))))))))))) := D_perm (((((((((((List.perm_append_comm_assoc a b c).append_left x9).append_left x8).append_left x7).append_left x6).append_left x5).append_left x4).append_left x3).append_left x2).append_left x1).append_left x0) h
theorem P_sw11 {D : va_G} {cl : List vw_C} {x0 x1 x2 x3 x4 x5 x6 x7 x8 x9 x10 a b c : va_W} {H : Heap} (h : va_P D cl (x0 ++ (x1 ++ (x2 ++ (x3 ++ (x4 ++ (x5 ++ (x6 ++ (x7 ++ (x8 ++ (x9 ++ (x10 ++ (a ++ (b ++ c))))))))))))) H) : va_P D cl (x0 ++ (x1 ++ (x2 ++ (x3 ++ (x4 ++ (x5 ++ (x6 ++ (x7 ++ (x8 ++ (x9 ++ (x10 ++ (b ++ (a ++ c))))))))))))) H := P_perm ((((((((((((List.perm_append_comm_assoc a b c).append_left x10).append_left x9).append_left x8).append_left x7).append_left x6).append_left x5).append_left x4).append_left x3).append_left x2).append_left x1).append_left x0) h
theorem D_sw11 {A : Nat → Prop} {x0 x1 x2 x3 x4 x5 x6 x7 x8 x9 x10 a b c : va_W} (h : va_D A (x0 ++ (x1 ++ (x2 ++ (x3 ++ (x4 ++ (x5 ++ (x6 ++ (x7 ++ (x8 ++ (x9 ++ (x10 ++ (a ++ (b ++ c)))))))))))))) : va_D A (x0 ++ (x1 ++ (x2 ++ (x3 ++ (x4 ++ (x5 ++ (x6 ++ (x7 ++ (x8 ++ (x9 ++ (x10 ++ (b ++ (a ++ c))))))))))))) := D_perm ((((((((((((List.perm_append_comm_assoc a b c).append_left x10).append_left x9).append_left x8).append_left x7).append_left x6).append_left x5).append_left x4).append_left x3).append_left x2).append_left x1).append_left x0) h
theorem P_sw12 {D : va_G} {cl : List vw_C} {x0 x1 x2 x3 x4 x5 x6 x7 x8 x9 x10 x11 a b c : va_W} {H : Heap} (h : va_P D cl (x0 ++ (x1 ++ (x2 ++ (x3 ++ (x4 ++ (x5 ++ (x6 ++ (x7 ++ (x8 ++ (x9 ++ (x10 ++ (x11 ++ (a ++ (b ++ c)))))))))))))) H) : va_P D cl (x0 ++ (x1 ++ (x2 ++ (x3 ++ (x4 ++ (x5 ++ (x6 ++ (x7 ++ (x8 ++ (x9 ++ (x10 ++ (x11 ++ (b ++ (a ++ c)))))))))))))) H := P_perm (((((((((((((List.perm_append_comm_assoc a b c).append_left x11).append_left x10).append_left x9).append_left x8).append_left x7).append_left x6).append_left x5).append_left x4).append_left x3).append_left x2).append_left x1).append_left x0) h
theorem D_sw12 {A : Nat → Prop} {x0 x1 x2 x3 x4 x5 x6 x7 x8 x9 x10 x11 a b c : va_W} (h : va_D A (x0 ++ (x1 ++ (x2 ++ (x3 ++ (x4 ++ (x5 ++ (x6 ++ (x7 ++ (x8 ++ (x9 ++ (x10 ++ (x11 ++ (a ++ (b ++ c))))))))))))))) : va_D A (x0 ++ (x1 ++ (x2 ++ (x3 ++ (x4 ++ (x5 ++ (x6 ++ (x7 ++ (x8 ++ (x9 ++ (x10 ++ (x11 ++ (b ++ (a ++ c)))))))))))))) := D_perm (((((((((((((List.perm_append_comm_assoc a b c).append_left x11).append_left x10).append_left x9).append_left x8).append_left x7).append_left x6).append_left x5).append_left x4).append_left x3).append_left x2).append_left x1).append_left x0) h
theorem kx1_U : Cond.classLink "MadeRunners" 50 "java/lang/UnsupportedOperationException" ∈ BIG := bmm (by decide +kernel) (by decide +kernel)
theorem kx2_U : Cond.instantiable "java/lang/UnsupportedOperationException" 6 ∈ BIG := bmm (by decide +kernel) (by decide +kernel)
theorem kx3_U : Cond.initialized "java/lang/UnsupportedOperationException" ∈ BIG := bmm (by decide +kernel) (by decide +kernel)
theorem kx4_U : Jvm.Bundle.fit "java/lang/UnsupportedOperationException" = true := by decide +kernel
theorem kx1_A : Cond.classLink "MadeRunners" 76 "java/lang/IllegalArgumentException" ∈ BIG := bmm (by decide +kernel) (by decide +kernel)
theorem kx2_A : Cond.instantiable "java/lang/IllegalArgumentException" 6 ∈ BIG := bmm (by decide +kernel) (by decide +kernel)
theorem kx3_A : Cond.initialized "java/lang/IllegalArgumentException" ∈ BIG := bmm (by decide +kernel) (by decide +kernel)
theorem kx4_A : Jvm.Bundle.fit "java/lang/IllegalArgumentException" = true := by decide +kernel
theorem kx1_S : Cond.classLink "MadeRunners" 110 "java/lang/IllegalStateException" ∈ BIG := bmm (by decide +kernel) (by decide +kernel)
theorem kx2_S : Cond.instantiable "java/lang/IllegalStateException" 6 ∈ BIG := bmm (by decide +kernel) (by decide +kernel)
theorem kx3_S : Cond.initialized "java/lang/IllegalStateException" ∈ BIG := bmm (by decide +kernel) (by decide +kernel)
theorem kx4_S : Jvm.Bundle.fit "java/lang/IllegalStateException" = true := by decide +kernel
theorem kx1_X : Cond.classLink "MadeRunners" 162 "java/lang/IndexOutOfBoundsException" ∈ BIG := bmm (by decide +kernel) (by decide +kernel)
theorem kx2_X : Cond.instantiable "java/lang/IndexOutOfBoundsException" 6 ∈ BIG := bmm (by decide +kernel) (by decide +kernel)
theorem kx3_X : Cond.initialized "java/lang/IndexOutOfBoundsException" ∈ BIG := bmm (by decide +kernel) (by decide +kernel)
theorem kx4_X : Jvm.Bundle.fit "java/lang/IndexOutOfBoundsException" = true := by decide +kernel
abbrev w_M_find : List Cond := .code y_M_find b_M_find 2 (some (.object "MadeRunners$Block")) :: BIG
set_option maxHeartbeats 1000000 in
set_option maxRecDepth 100000 in
theorem c_M_find (l : Launch) (D : va_G) (cI cL cO : ClassId) (x0 : Nat) (lim : Int32) (a0 : Nat) (k0 : Nat) (u0 : Nat) (v0 : Nat) (t1 : Nat) (gen : Int32) (wrg : Int32) (rns : Int32) (als : Int32) (d0 : Nat) (sz : Int32) (mo : Int32) (cap : Nat) (rf : Nat → Option Nat) (h0 : Nat) (q1 : Nat) (q2 : Nat) (q3 : Nat) (q4 : Nat) (q5 : Nat) (o : Fn) (f : Fn) (ee : Fn) (t : Fn) (b : Fn) (ic : Int32) (bc : Int32) (sa : Int32) (gn : Int32) (bi : Int32) (hi0 : ¬ bi < 0) (hi1 : bi < sz) (hi2 : vp_in bi cap) (hi3 : rf bi.toNatClampNeg = some h0) : CRv l y_M_find w_M_find ({ frames := 3, cells := 0, slots := 0, locals := 64 }) D cI cL cO [.ref x0, .int bi] ((wX x0 lim a0 k0 u0 v0 t1 gen wrg rns als) ++ ((wH a0 d0 sz mo) ++ ((wR cO d0 cap rf) ++ (wB cI h0 q1 q2 q3 q4 q5 o f ee t b ic bc sa gn)))) (.ref h0) := by
  refine ofR (cc := b_M_find) (maxL := 2) (ret := (some (.object "MadeRunners$Block"))) (by decide) rfl (Nat.le_of_ble_eq_true rfl) ?_
  intro p e s m below meth c ls Q hQ hx hb hr hlocks hts hown hml hP hK hl
  have hl : lv_has ls 2 [(0, .ref x0), (1, .int bi)] := hl
  have hown : s.vm.findClass R_M = some m.cls := hown
  have ht : ∀ w ∈ BIG, w.before _ s = true := fun w h => hts w (List.mem_cons_of_mem _ h)
  refine lv_iload_n hx hb d_M_find_0 rfl (lv_at hl 1 rfl) ?_
  refine lv_if_lt (tgt := 15) hx hb d_M_find_1 (by decide) (fun c_1 => ?_) (fun c_1 => ?_)
  · exact absurd c_1 hi0
  · refine lv_iload_n hx hb d_M_find_4 rfl (lv_at hl 1 rfl) ?_
    refine lv_aload_n hx hb d_M_find_5 rfl (lv_at hl 0 rfl) ?_
    refine va_get (ci := 3) (v := .ref a0) (C := R_M) (T := T_M) (N := 10) hx hb ht in_M hown hK.1 hP 0 rfl rfl 1 (by decide) (ht _ k_fl_M_12) (fun _ h9 => h9) rfl d_M_find_6 ?_
    refine goRi (va_runV (As := []) (rest := [.int bi]) ⟨hx, hb, hml, hown, hts⟩ (c_A_size l D cI cL cO a0 d0 sz mo) (cwV 0 hts (gBIG (m4 k_ml_M_46 k_im_A_size k_sel_A_size k_ini_A) k_co_A_size) rfl rfl rfl (by decide +kernel) ⟨Nat.le_of_ble_eq_true rfl, Nat.le_of_ble_eq_true rfl⟩) ⟨PR.bl, va_recv hK.1 ((P_app.mp (P_app.mp hP).2).1) (ci := 4) (q0 := 0) rfl rfl, PR.pre ((P_app.mp (P_app.mp hP).2).1) hK⟩ rfl rfl hl.1 rfl (lv_room (Nat.le_of_ble_eq_true rfl)) d_M_find_9 ⟨Nat.le_of_ble_eq_true rfl, Nat.le_of_ble_eq_true rfl⟩) ?_
    refine lv_icmp_lt (tgt := 25) hx hb d_M_find_12 (by decide) (fun c_12 => ?_) (fun c_12 => ?_)
    · refine lv_aload_n hx hb d_M_find_25 rfl (lv_at hl 0 rfl) ?_
      refine va_get (ci := 3) (v := .ref a0) (C := R_M) (T := T_M) (N := 10) hx hb ht in_M hown hK.1 hP 0 rfl rfl 1 (by decide) (ht _ k_fl_M_12) (fun _ h9 => h9) rfl d_M_find_26 ?_
      refine lv_iload_n hx hb d_M_find_29 rfl (lv_at hl 1 rfl) ?_
      refine goRv (va_runV (As := [.int bi]) (rest := []) ⟨hx, hb, hml, hown, hts⟩ (c_A_get l D cI cL cO a0 d0 sz mo cap rf bi h0 hi0 hi1 hi2 hi3) (cwV 1 hts (gBIG (m4 k_ml_M_134 k_im_A_get k_sel_A_get k_ini_A) k_co_A_get) rfl rfl rfl (by decide +kernel) ⟨Nat.le_of_ble_eq_true rfl, Nat.le_of_ble_eq_true rfl⟩) ⟨PR.bl, va_recv hK.1 (P_app.mpr ⟨(P_app.mp (P_app.mp hP).2).1, (P_app.mp (P_app.mp (P_app.mp hP).2).2).1⟩) (ci := 4) (q0 := 0) rfl rfl, PR.pre (P_app.mpr ⟨(P_app.mp (P_app.mp hP).2).1, (P_app.mp (P_app.mp (P_app.mp hP).2).2).1⟩) hK⟩ rfl rfl hl.1 rfl (lv_room (Nat.le_of_ble_eq_true rfl)) d_M_find_30 ⟨Nat.le_of_ble_eq_true rfl, Nat.le_of_ble_eq_true rfl⟩) ?_
      refine va_castY (C := R_B) hx hb hown (ht _ k_cl_M_57) (hK.2 _ n_ca_BB) (va_recv hK.1 (P_app.mp (P_app.mp (P_app.mp hP).2).2).2 (ci := 0) (q0 := 0) rfl rfl) d_M_find_33 ?_
      rw [hQ]; exact retRv hx hb hr (Or.inl ⟨_, rfl⟩) (Or.inr ⟨_, rfl⟩) hlocks rfl d_M_find_36
    · exact absurd hi1 c_12

set_option maxHeartbeats 1000000 in
set_option maxRecDepth 100000 in
theorem c_M_findT (l : Launch) (D : va_G) (cI cL cO : ClassId) (N t0 mi : Nat) (hl0 : l.stackTraces = false) (x0 : Nat) (lim : Int32) (a0 : Nat) (k0 : Nat) (u0 : Nat) (v0 : Nat) (t1 : Nat) (gen : Int32) (wrg : Int32) (rns : Int32) (als : Int32) (d0 : Nat) (sz : Int32) (mo : Int32) (fr : va_W) (bi : Int32) (hbad : bi < 0 ∨ ¬ bi < sz) : CT l y_M_find w_M_find ({ frames := 6, cells := 1, slots := 6, locals := 82 }) D cI cL cO N t0 mi [.ref x0, .int bi] ((wX x0 lim a0 k0 u0 v0 t1 gen wrg rns als) ++ ((wH a0 d0 sz mo) ++ fr)) "java/lang/IndexOutOfBoundsException" (fun u : Unit => ((wX x0 lim a0 k0 u0 v0 t1 gen wrg rns als) ++ ((wH a0 d0 sz mo) ++ fr))) 1 6 := by
  refine ofT (cc := b_M_find) (maxL := 2) (ret := (some (.object "MadeRunners$Block"))) (by decide) rfl (Nat.le_of_ble_eq_true rfl) ?_
  intro p e s m below meth c A ls H Q hQ hx hb hr hlocks hmt hts hown hml hP hK hD hS hA hl hE hN hAN
  have hl : lv_has ls 2 [(0, .ref x0), (1, .int bi)] := hl
  have hown : s.vm.findClass R_M = some m.cls := hown
  have ht : ∀ w ∈ BIG, w.before _ s = true := fun w h => hts w (List.mem_cons_of_mem _ h)
  refine lv_iload_n hx hb d_M_find_0 rfl (lv_at hl 1 rfl) ?_
  refine lv_if_lt (tgt := 15) hx hb d_M_find_1 (by decide) (fun c_1 => ?_) (fun c_1 => ?_)
  · rw [hQ]; exact w_throw (X := "java/lang/IndexOutOfBoundsException") (tx := "no such block") (ic := 166) (ik := 162) (is := 187) (N := N) hx hb hl0 hlocks hown th4 kx4_X ht hE.1 (by decide) kx1_X kx2_X kx3_X hmt (hl.1.trans hml.symm) hS hAN hN d_M_find_15 d_M_find_18 d_M_find_19 d_M_find_21 d_M_find_24 (Nat.le_of_ble_eq_true rfl) (Nat.le_of_ble_eq_true rfl) (Nat.le_of_ble_eq_true rfl) (Nat.le_of_ble_eq_true rfl) (fun H1 up => ⟨(), P_up hP up, hD⟩)
  · refine lv_iload_n hx hb d_M_find_4 rfl (lv_at hl 1 rfl) ?_
    refine lv_aload_n hx hb d_M_find_5 rfl (lv_at hl 0 rfl) ?_
    refine va_get (ci := 3) (v := .ref a0) (C := R_M) (T := T_M) (N := 10) hx hb ht in_M hown hK.1 hP 0 rfl rfl 1 (by decide) (ht _ k_fl_M_12) (fun _ h9 => h9) rfl d_M_find_6 ?_
    refine goRi (va_runV (As := []) (rest := [.int bi]) ⟨hx, hb, hml, hown, hts⟩ (c_A_size l D cI cL cO a0 d0 sz mo) (cwV 0 hts (gBIG (m4 k_ml_M_46 k_im_A_size k_sel_A_size k_ini_A) k_co_A_size) rfl rfl rfl (by decide +kernel) ⟨Nat.le_of_ble_eq_true rfl, Nat.le_of_ble_eq_true rfl⟩) ⟨PR.bl, va_recv hK.1 ((P_app.mp (P_app.mp hP).2).1) (ci := 4) (q0 := 0) rfl rfl, PR.pre ((P_app.mp (P_app.mp hP).2).1) hK⟩ rfl rfl hl.1 rfl (lv_room (Nat.le_of_ble_eq_true rfl)) d_M_find_9 ⟨Nat.le_of_ble_eq_true rfl, Nat.le_of_ble_eq_true rfl⟩) ?_
    refine lv_icmp_lt (tgt := 25) hx hb d_M_find_12 (by decide) (fun c_12 => ?_) (fun c_12 => ?_)
    · exact (hbad.elim c_1 (fun h => h c_12)).elim
    · rw [hQ]; exact w_throw (X := "java/lang/IndexOutOfBoundsException") (tx := "no such block") (ic := 166) (ik := 162) (is := 187) (N := N) hx hb hl0 hlocks hown th4 kx4_X ht hE.1 (by decide) kx1_X kx2_X kx3_X hmt (hl.1.trans hml.symm) hS hAN hN d_M_find_15 d_M_find_18 d_M_find_19 d_M_find_21 d_M_find_24 (Nat.le_of_ble_eq_true rfl) (Nat.le_of_ble_eq_true rfl) (Nat.le_of_ble_eq_true rfl) (Nat.le_of_ble_eq_true rfl) (fun H1 up => ⟨(), P_up hP up, hD⟩)

abbrev w_M_instruction : List Cond := .code y_M_instruction b_M_instruction 6 (some .int) :: BIG
set_option maxHeartbeats 1000000 in
set_option maxRecDepth 100000 in
theorem c_M_instruction (l : Launch) (D : va_G) (cI cL cO : ClassId) (x0 : Nat) (lim : Int32) (a0 : Nat) (k0 : Nat) (u0 : Nat) (v0 : Nat) (t1 : Nat) (gen : Int32) (wrg : Int32) (rns : Int32) (als : Int32) (d0 : Nat) (sz : Int32) (mo : Int32) (cap : Nat) (rf : Nat → Option Nat) (h0 : Nat) (q1 : Nat) (q2 : Nat) (q3 : Nat) (q4 : Nat) (q5 : Nat) (o : Fn) (f : Fn) (ee : Fn) (t : Fn) (b : Fn) (ic : Int32) (bc : Int32) (sa : Int32) (gn : Int32) (fr : va_W) (bi : Int32) (op : Int32) (ra : Int32) (x : Int32) (hi0 : ¬ bi < 0) (hi1 : bi < sz) (hi2 : vp_in bi cap) (hi3 : rf bi.toNatClampNeg = some h0) (v1 : ¬ op < 0) (v2 : ¬ 7 < op) (v3 : ¬ isReg ra = 0) (v4 : ¬ isOpnd op x = 0) (v5 : ic < 60) (hic : ¬ ic < 0) : CMi l y_M_instruction w_M_instruction ({ frames := 4, cells := 0, slots := 0, locals := 85 }) D cI cL cO [.ref x0, .int bi, .int op, .int ra, .int x] ((wX x0 lim a0 k0 u0 v0 t1 gen wrg rns als) ++ ((wH a0 d0 sz mo) ++ ((wR cO d0 cap rf) ++ ((wB cI h0 q1 q2 q3 q4 q5 o f ee t b ic bc sa gn) ++ fr)))) (fun (r : Int32) (u : Fn × Fn × Fn × Fn × Int32 × Int32 × Int32 × Int32) => r = ic + 1 ∧ u = (upd o ic.toNatClampNeg op, upd f ic.toNatClampNeg ra, upd ee ic.toNatClampNeg x, upd t (ic + 1).toNatClampNeg (t ic.toNatClampNeg + bytesF op x), ic + 1, 0, 0, -1)) (fun u : Fn × Fn × Fn × Fn × Int32 × Int32 × Int32 × Int32 => ((wX x0 lim a0 k0 u0 v0 t1 gen wrg rns als) ++ ((wH a0 d0 sz mo) ++ ((wR cO d0 cap rf) ++ ((wB cI h0 q1 q2 q3 q4 q5 u.1 u.2.1 u.2.2.1 u.2.2.2.1 b u.2.2.2.2.1 u.2.2.2.2.2.1 u.2.2.2.2.2.2.1 u.2.2.2.2.2.2.2) ++ fr))))) 0 0 := by
  refine ofMi (cc := b_M_instruction) (maxL := 6) (ret := (some .int)) (by decide) rfl (Nat.le_of_ble_eq_true rfl) ?_
  intro p e s m below meth c A ls H Q hQ hx hb hr hlocks hin hts hown hml hP hK hD hS hA hl
  have hl : lv_has ls 6 [(0, .ref x0), (1, .int bi), (2, .int op), (3, .int ra), (4, .int x)] := hl
  have hown : s.vm.findClass R_M = some m.cls := hown
  have ht : ∀ w ∈ BIG, w.before _ s = true := fun w h => hts w (List.mem_cons_of_mem _ h)
  refine lv_aload_n hx hb d_M_instruction_0 rfl (lv_at hl 0 rfl) ?_
  refine lv_iload_n hx hb d_M_instruction_1 rfl (lv_at hl 1 rfl) ?_
  refine goRv (va_runV (As := [.int bi]) (rest := []) ⟨hx, hb, hml, hown, hts⟩ (c_M_find l D cI cL cO x0 lim a0 k0 u0 v0 t1 gen wrg rns als d0 sz mo cap rf h0 q1 q2 q3 q4 q5 o f ee t b ic bc sa gn bi hi0 hi1 hi2 hi3) (cwV 1 hts (gBIG (m4 k_ml_M_64 k_im_M_find k_sel_M_find k_ini_M) k_co_M_find) rfl rfl rfl (by decide +kernel) ⟨Nat.le_of_ble_eq_true rfl, Nat.le_of_ble_eq_true rfl⟩) ⟨PR.bl, va_recv hK.1 (P_app.mpr ⟨(P_app.mp hP).1, (P_app.mpr ⟨(P_app.mp (P_app.mp hP).2).1, (P_app.mpr ⟨(P_app.mp (P_app.mp (P_app.mp hP).2).2).1, (P_app.mp (P_app.mp (P_app.mp (P_app.mp hP).2).2).2).1⟩)⟩)⟩) (ci := 3) (q0 := 0) rfl rfl, PR.pre (P_app.mpr ⟨(P_app.mp hP).1, (P_app.mpr ⟨(P_app.mp (P_app.mp hP).2).1, (P_app.mpr ⟨(P_app.mp (P_app.mp (P_app.mp hP).2).2).1, (P_app.mp (P_app.mp (P_app.mp (P_app.mp hP).2).2).2).1⟩)⟩)⟩) hK⟩ rfl rfl hl.1 rfl (lv_room (Nat.le_of_ble_eq_true rfl)) d_M_instruction_2 ⟨Nat.le_of_ble_eq_true rfl, Nat.le_of_ble_eq_true rfl⟩) ?_
  refine lv_astore (lv' := [(5, .ref h0), (0, .ref x0), (1, .int bi), (2, .int op), (3, .int ra), (4, .int x)]) hx hb d_M_instruction_5 hl (by decide) rfl (fun ls hl => ?_)
  refine lv_iload_n hx hb d_M_instruction_7 rfl (lv_at hl 3 rfl) ?_
  refine lv_if_lt (tgt := 33) hx hb d_M_instruction_8 (by decide) (fun c_8 => ?_) (fun c_8 => ?_)
  · exact absurd c_8 v1
  · refine lv_iload_n hx hb d_M_instruction_11 rfl (lv_at hl 3 rfl) ?_
    refine lv_bipush (v := 7) hx hb d_M_instruction_12 (by decide) ?_
    refine lv_icmp_gt (tgt := 33) hx hb d_M_instruction_14 (by decide) (fun c_14 => ?_) (fun c_14 => ?_)
    · exact absurd c_14 v2
    · refine lv_iload_n hx hb d_M_instruction_17 rfl (lv_at hl 4 rfl) ?_
      refine goRi (va_runS (As := [.int ra]) (rest := []) ⟨hx, hb, hml, hown, hts⟩ (c_M_isRegister l D cI cL cO ra) (cwS 1 hts (gBIG (m3 k_ml_M_68 k_st_M_isRegister k_ini_M) k_co_M_isRegister) rfl rfl rfl (by decide +kernel) ⟨Nat.le_of_ble_eq_true rfl, Nat.le_of_ble_eq_true rfl⟩) ⟨PR.bl, PR.pre P_nil hK⟩ rfl rfl hl.1 rfl (lv_room (Nat.le_of_ble_eq_true rfl)) d_M_instruction_18 ⟨Nat.le_of_ble_eq_true rfl, Nat.le_of_ble_eq_true rfl⟩) ?_
      refine lv_if_eq (tgt := 33) hx hb d_M_instruction_21 (by decide) (fun c_21 => ?_) (fun c_21 => ?_)
      · exact absurd c_21 v3
      · refine lv_iload_n hx hb d_M_instruction_24 rfl (lv_at hl 3 rfl) ?_
        refine lv_iload hx hb d_M_instruction_25 (lv_at hl 5 rfl) ?_
        refine goRi (va_runS (As := [.int op, .int x]) (rest := []) ⟨hx, hb, hml, hown, hts⟩ (c_M_isOperand l D cI cL cO op x) (cwS 2 hts (gBIG (m3 k_ml_M_72 k_st_M_isOperand k_ini_M) k_co_M_isOperand) rfl rfl rfl (by decide +kernel) ⟨Nat.le_of_ble_eq_true rfl, Nat.le_of_ble_eq_true rfl⟩) ⟨PR.bl, PR.pre P_nil hK⟩ rfl rfl hl.1 rfl (lv_room (Nat.le_of_ble_eq_true rfl)) d_M_instruction_27 ⟨Nat.le_of_ble_eq_true rfl, Nat.le_of_ble_eq_true rfl⟩) ?_
        refine lv_if_ne (tgt := 43) hx hb d_M_instruction_30 (by decide) (fun c_30 => ?_) (fun c_30 => ?_)
        · refine lv_aload hx hb d_M_instruction_43 (lv_at hl 0 rfl) ?_
          refine va_getN (ci := 0) (v := .int ic) (C := R_B) (T := T_B) (N := 9) hx hb ht in_B hown hK.1 hP 3 rfl rfl 5 (by decide) (va_Nw.use rfl (hK.2 _ n_fl_M_81)) (fun _ h9 => h9) rfl d_M_instruction_45 ?_
          refine lv_bipush (v := 60) hx hb d_M_instruction_48 (by decide) ?_
          refine lv_icmp_lt (tgt := 63) hx hb d_M_instruction_50 (by decide) (fun c_50 => ?_) (fun c_50 => ?_)
          · refine lv_aload hx hb d_M_instruction_63 (lv_at hl 0 rfl) ?_
            refine lv_iload_n hx hb d_M_instruction_65 rfl (lv_at hl 3 rfl) ?_
            refine lv_iload_n hx hb d_M_instruction_66 rfl (lv_at hl 4 rfl) ?_
            refine lv_iload hx hb d_M_instruction_67 (lv_at hl 5 rfl) ?_
            have hP := P_sw2 hP
            have hD := D_sw2 hD
            have hP := P_sw1 hP
            have hD := D_sw1 hD
            have hP := P_sw hP
            have hD := D_sw hD
            refine goMv (va_runVN (As := [.int op, .int ra, .int x]) (rest := []) ⟨hx, hb, hml, hown, hts⟩ (c_B_addInstruction l D cI cL cO h0 q1 q2 q3 q4 q5 o f ee t b ic bc sa gn ((wX x0 lim a0 k0 u0 v0 t1 gen wrg rns als) ++ ((wH a0 d0 sz mo) ++ ((wR cO d0 cap rf) ++ fr))) op ra x hic H.size) ⟨va_cnB 3 hts (gB0 k_co_B_addInstruction) rfl rfl rfl (hK.2 _ n_ml_M_86) (ht _ k_ini_B) (by decide +kernel) ⟨Nat.le_of_ble_eq_true rfl, Nat.le_of_ble_eq_true rfl⟩, ht _ k_im_B_addInstruction, ht _ k_sel_B_addInstruction⟩ ⟨PM.bl, va_recv hK.1 hP (ci := 0) (q0 := 0) rfl rfl, PM.pre hP hD hK⟩ rfl rfl hl.1 rfl (lv_room (Nat.le_of_ble_eq_true rfl)) d_M_instruction_69 ⟨Nat.le_of_ble_eq_true rfl, Nat.le_of_ble_eq_true rfl⟩) hD hS hA (fun u H locs hw hP hD hS => ?_)
            obtain ⟨o_69, f_69, ee_69, t_69, ic_69⟩ := u
            have e_69 : (o_69, f_69, ee_69, t_69, ic_69) = (if ic < 60 then (upd o ic.toNatClampNeg op, upd f ic.toNatClampNeg ra, upd ee ic.toNatClampNeg x, upd t (ic + 1).toNatClampNeg (t ic.toNatClampNeg + bytesF op x), ic + 1) else (o, f, ee, t, ic)) := hw
            have hP : va_P D vwCl ((wB cI h0 q1 q2 q3 q4 q5 o_69 f_69 ee_69 t_69 b ic_69 bc sa gn) ++ ((wX x0 lim a0 k0 u0 v0 t1 gen wrg rns als) ++ ((wH a0 d0 sz mo) ++ ((wR cO d0 cap rf) ++ fr)))) H := hP
            have hD : va_D A ((wB cI h0 q1 q2 q3 q4 q5 o_69 f_69 ee_69 t_69 b ic_69 bc sa gn) ++ ((wX x0 lim a0 k0 u0 v0 t1 gen wrg rns als) ++ ((wH a0 d0 sz mo) ++ ((wR cO d0 cap rf) ++ fr)))) := hD
            have hP := P_sw hP
            have hD := D_sw hD
            have hP := P_sw1 hP
            have hD := D_sw1 hD
            have hP := P_sw2 hP
            have hD := D_sw2 hD
            have hP : va_P D vwCl ((wX x0 lim a0 k0 u0 v0 t1 gen wrg rns als) ++ ((wH a0 d0 sz mo) ++ ((wR cO d0 cap rf) ++ ((wB cI h0 q1 q2 q3 q4 q5 o_69 f_69 ee_69 t_69 b ic_69 bc sa gn) ++ fr)))) H := hP
            have hD : va_D A ((wX x0 lim a0 k0 u0 v0 t1 gen wrg rns als) ++ ((wH a0 d0 sz mo) ++ ((wR cO d0 cap rf) ++ ((wB cI h0 q1 q2 q3 q4 q5 o_69 f_69 ee_69 t_69 b ic_69 bc sa gn) ++ fr)))) := hD
            refine lv_aload hx hb d_M_instruction_72 (lv_at hl 0 rfl) ?_
            have hP := P_sw2 hP
            have hD := D_sw2 hD
            have hP := P_sw1 hP
            have hD := D_sw1 hD
            have hP := P_sw hP
            have hD := D_sw hD
            refine goMv (va_runVN (As := []) (rest := []) ⟨hx, hb, hml, hown, hts⟩ (c_B_becomeRows l D cI cL cO h0 q1 q2 q3 q4 q5 o_69 f_69 ee_69 t_69 b ic_69 bc sa gn ((wX x0 lim a0 k0 u0 v0 t1 gen wrg rns als) ++ ((wH a0 d0 sz mo) ++ ((wR cO d0 cap rf) ++ fr))) H.size) ⟨va_cnB 0 hts (gB0 k_co_B_becomeRows) rfl rfl rfl (hK.2 _ n_ml_M_90) (ht _ k_ini_B) (by decide +kernel) ⟨Nat.le_of_ble_eq_true rfl, Nat.le_of_ble_eq_true rfl⟩, ht _ k_im_B_becomeRows, ht _ k_sel_B_becomeRows⟩ ⟨PM.bl, va_recv hK.1 hP (ci := 0) (q0 := 0) rfl rfl, PM.pre hP hD hK⟩ rfl rfl hl.1 rfl (lv_room (Nat.le_of_ble_eq_true rfl)) d_M_instruction_74 ⟨Nat.le_of_ble_eq_true rfl, Nat.le_of_ble_eq_true rfl⟩) hD hS hA (fun u H locs hw hP hD hS => ?_)
            obtain ⟨bc_74, sa_74, gn_74⟩ := u
            have e_74 : (bc_74, sa_74, gn_74) = (0, 0, -1) := hw
            have hP : va_P D vwCl ((wB cI h0 q1 q2 q3 q4 q5 o_69 f_69 ee_69 t_69 b ic_69 bc_74 sa_74 gn_74) ++ ((wX x0 lim a0 k0 u0 v0 t1 gen wrg rns als) ++ ((wH a0 d0 sz mo) ++ ((wR cO d0 cap rf) ++ fr)))) H := hP
            have hD : va_D A ((wB cI h0 q1 q2 q3 q4 q5 o_69 f_69 ee_69 t_69 b ic_69 bc_74 sa_74 gn_74) ++ ((wX x0 lim a0 k0 u0 v0 t1 gen wrg rns als) ++ ((wH a0 d0 sz mo) ++ ((wR cO d0 cap rf) ++ fr)))) := hD
            have hP := P_sw hP
            have hD := D_sw hD
            have hP := P_sw1 hP
            have hD := D_sw1 hD
            have hP := P_sw2 hP
            have hD := D_sw2 hD
            have hP : va_P D vwCl ((wX x0 lim a0 k0 u0 v0 t1 gen wrg rns als) ++ ((wH a0 d0 sz mo) ++ ((wR cO d0 cap rf) ++ ((wB cI h0 q1 q2 q3 q4 q5 o_69 f_69 ee_69 t_69 b ic_69 bc_74 sa_74 gn_74) ++ fr)))) H := hP
            have hD : va_D A ((wX x0 lim a0 k0 u0 v0 t1 gen wrg rns als) ++ ((wH a0 d0 sz mo) ++ ((wR cO d0 cap rf) ++ ((wB cI h0 q1 q2 q3 q4 q5 o_69 f_69 ee_69 t_69 b ic_69 bc_74 sa_74 gn_74) ++ fr)))) := hD
            refine lv_aload hx hb d_M_instruction_77 (lv_at hl 0 rfl) ?_
            refine va_getN (ci := 0) (v := .int ic_69) (C := R_B) (T := T_B) (N := 9) hx hb ht in_B hown hK.1 hP 3 rfl rfl 5 (by decide) (va_Nw.use rfl (hK.2 _ n_fl_M_81)) (fun _ h9 => h9) rfl d_M_instruction_79 ?_
            rw [hQ]; exact retMi (w1 := fun u : Fn × Fn × Fn × Fn × Int32 × Int32 × Int32 × Int32 => ((wX x0 lim a0 k0 u0 v0 t1 gen wrg rns als) ++ ((wH a0 d0 sz mo) ++ ((wR cO d0 cap rf) ++ ((wB cI h0 q1 q2 q3 q4 q5 u.1 u.2.1 u.2.2.1 u.2.2.2.1 b u.2.2.2.2.1 u.2.2.2.2.2.1 u.2.2.2.2.2.2.1 u.2.2.2.2.2.2.2) ++ fr))))) (o_69, f_69, ee_69, t_69, ic_69, bc_74, sa_74, gn_74) hx hb hr hlocks hP hD hS (by rw [if_pos v5] at e_69; cases e_69; cases e_74; exact ⟨rfl, rfl⟩) d_M_instruction_82
          · exact absurd v5 c_50
        · exact absurd c_30 v4

set_option maxHeartbeats 1000000 in
set_option maxRecDepth 100000 in
theorem c_M_instructionX (l : Launch) (D : va_G) (cI cL cO : ClassId) (N t0 mi : Nat) (hl0 : l.stackTraces = false) (x0 : Nat) (lim : Int32) (a0 : Nat) (k0 : Nat) (u0 : Nat) (v0 : Nat) (t1 : Nat) (gen : Int32) (wrg : Int32) (rns : Int32) (als : Int32) (d0 : Nat) (sz : Int32) (mo : Int32) (fr : va_W) (bi : Int32) (op : Int32) (ra : Int32) (x : Int32) (hbad : bi < 0 ∨ ¬ bi < sz) : CT l y_M_instruction w_M_instruction ({ frames := 7, cells := 1, slots := 6, locals := 103 }) D cI cL cO N t0 mi [.ref x0, .int bi, .int op, .int ra, .int x] ((wX x0 lim a0 k0 u0 v0 t1 gen wrg rns als) ++ ((wH a0 d0 sz mo) ++ fr)) "java/lang/IndexOutOfBoundsException" (fun u : Unit => ((wX x0 lim a0 k0 u0 v0 t1 gen wrg rns als) ++ ((wH a0 d0 sz mo) ++ fr))) 1 6 := by
  refine ofT (cc := b_M_instruction) (maxL := 6) (ret := (some .int)) (by decide) rfl (Nat.le_of_ble_eq_true rfl) ?_
  intro p e s m below meth c A ls H Q hQ hx hb hr hlocks hmt hts hown hml hP hK hD hS hA hl hE hN hAN
  have hl : lv_has ls 6 [(0, .ref x0), (1, .int bi), (2, .int op), (3, .int ra), (4, .int x)] := hl
  have hown : s.vm.findClass R_M = some m.cls := hown
  have ht : ∀ w ∈ BIG, w.before _ s = true := fun w h => hts w (List.mem_cons_of_mem _ h)
  refine lv_aload_n hx hb d_M_instruction_0 rfl (lv_at hl 0 rfl) ?_
  refine lv_iload_n hx hb d_M_instruction_1 rfl (lv_at hl 1 rfl) ?_
  rw [hQ]; exact passT (runT (As := [.int bi]) (rest := []) ⟨hx, hb, hml, hown, hts⟩ (c_M_findT l D cI cL cO N t0 mi hl0 x0 lim a0 k0 u0 v0 t1 gen wrg rns als d0 sz mo fr bi hbad H.size) (cwV 1 hts (gBIG (m4 k_ml_M_64 k_im_M_find k_sel_M_find k_ini_M) k_co_M_find) rfl rfl rfl (by decide +kernel) ⟨Nat.le_of_ble_eq_true rfl, Nat.le_of_ble_eq_true rfl⟩) ⟨PX.bl, va_recv hK.1 hP (ci := 3) (q0 := 0) rfl rfl, PX.pre hP hD hK hE hS hAN hN⟩ rfl rfl hl.1 rfl (lv_room (Nat.le_of_ble_eq_true rfl)) d_M_instruction_2 ⟨Nat.le_of_ble_eq_true rfl, Nat.le_of_ble_eq_true rfl⟩) rfl rfl rfl hlocks hmt hS (A_in hD hS hA) (fun H1 h1 => by obtain ⟨u, h2, h3⟩ := h1; exact ⟨u, h2, h3.weaken (fun _ q _ h => A_in hD hS hA q.1 h)⟩)

set_option maxHeartbeats 1000000 in
set_option maxRecDepth 100000 in
theorem c_M_instructionA (l : Launch) (D : va_G) (cI cL cO : ClassId) (N t0 mi : Nat) (hl0 : l.stackTraces = false) (x0 : Nat) (lim : Int32) (a0 : Nat) (k0 : Nat) (u0 : Nat) (v0 : Nat) (t1 : Nat) (gen : Int32) (wrg : Int32) (rns : Int32) (als : Int32) (d0 : Nat) (sz : Int32) (mo : Int32) (cap : Nat) (rf : Nat → Option Nat) (h0 : Nat) (q1 : Nat) (q2 : Nat) (q3 : Nat) (q4 : Nat) (q5 : Nat) (o : Fn) (f : Fn) (ee : Fn) (t : Fn) (b : Fn) (ic : Int32) (bc : Int32) (sa : Int32) (gn : Int32) (fr : va_W) (bi : Int32) (op : Int32) (ra : Int32) (x : Int32) (hi0 : ¬ bi < 0) (hi1 : bi < sz) (hi2 : vp_in bi cap) (hi3 : rf bi.toNatClampNeg = some h0) (hbx : op < 0 ∨ 7 < op ∨ isReg ra = 0 ∨ isOpnd op x = 0) : CT l y_M_instruction w_M_instruction ({ frames := 6, cells := 1, slots := 6, locals := 85 }) D cI cL cO N t0 mi [.ref x0, .int bi, .int op, .int ra, .int x] ((wX x0 lim a0 k0 u0 v0 t1 gen wrg rns als) ++ ((wH a0 d0 sz mo) ++ ((wR cO d0 cap rf) ++ ((wB cI h0 q1 q2 q3 q4 q5 o f ee t b ic bc sa gn) ++ fr)))) "java/lang/IllegalArgumentException" (fun u : Unit => ((wX x0 lim a0 k0 u0 v0 t1 gen wrg rns als) ++ ((wH a0 d0 sz mo) ++ ((wR cO d0 cap rf) ++ ((wB cI h0 q1 q2 q3 q4 q5 o f ee t b ic bc sa gn) ++ fr))))) 1 6 := by
  refine ofT (cc := b_M_instruction) (maxL := 6) (ret := (some .int)) (by decide) rfl (Nat.le_of_ble_eq_true rfl) ?_
  intro p e s m below meth c A ls H Q hQ hx hb hr hlocks hmt hts hown hml hP hK hD hS hA hl hE hN hAN
  have hl : lv_has ls 6 [(0, .ref x0), (1, .int bi), (2, .int op), (3, .int ra), (4, .int x)] := hl
  have hown : s.vm.findClass R_M = some m.cls := hown
  have ht : ∀ w ∈ BIG, w.before _ s = true := fun w h => hts w (List.mem_cons_of_mem _ h)
  refine lv_aload_n hx hb d_M_instruction_0 rfl (lv_at hl 0 rfl) ?_
  refine lv_iload_n hx hb d_M_instruction_1 rfl (lv_at hl 1 rfl) ?_
  refine goRv (va_runV (As := [.int bi]) (rest := []) ⟨hx, hb, hml, hown, hts⟩ (c_M_find l D cI cL cO x0 lim a0 k0 u0 v0 t1 gen wrg rns als d0 sz mo cap rf h0 q1 q2 q3 q4 q5 o f ee t b ic bc sa gn bi hi0 hi1 hi2 hi3) (cwV 1 hts (gBIG (m4 k_ml_M_64 k_im_M_find k_sel_M_find k_ini_M) k_co_M_find) rfl rfl rfl (by decide +kernel) ⟨Nat.le_of_ble_eq_true rfl, Nat.le_of_ble_eq_true rfl⟩) ⟨PR.bl, va_recv hK.1 (P_app.mpr ⟨(P_app.mp hP).1, (P_app.mpr ⟨(P_app.mp (P_app.mp hP).2).1, (P_app.mpr ⟨(P_app.mp (P_app.mp (P_app.mp hP).2).2).1, (P_app.mp (P_app.mp (P_app.mp (P_app.mp hP).2).2).2).1⟩)⟩)⟩) (ci := 3) (q0 := 0) rfl rfl, PR.pre (P_app.mpr ⟨(P_app.mp hP).1, (P_app.mpr ⟨(P_app.mp (P_app.mp hP).2).1, (P_app.mpr ⟨(P_app.mp (P_app.mp (P_app.mp hP).2).2).1, (P_app.mp (P_app.mp (P_app.mp (P_app.mp hP).2).2).2).1⟩)⟩)⟩) hK⟩ rfl rfl hl.1 rfl (lv_room (Nat.le_of_ble_eq_true rfl)) d_M_instruction_2 ⟨Nat.le_of_ble_eq_true rfl, Nat.le_of_ble_eq_true rfl⟩) ?_
  refine lv_astore (lv' := [(5, .ref h0), (0, .ref x0), (1, .int bi), (2, .int op), (3, .int ra), (4, .int x)]) hx hb d_M_instruction_5 hl (by decide) rfl (fun ls hl => ?_)
  refine lv_iload_n hx hb d_M_instruction_7 rfl (lv_at hl 3 rfl) ?_
  refine lv_if_lt (tgt := 33) hx hb d_M_instruction_8 (by decide) (fun c_8 => ?_) (fun c_8 => ?_)
  · rw [hQ]; exact w_throw (X := "java/lang/IllegalArgumentException") (tx := "no such instruction") (ic := 80) (ik := 76) (is := 78) (N := N) hx hb hl0 hlocks hown th2 kx4_A ht hE.1 (by decide) kx1_A kx2_A kx3_A hmt (hl.1.trans hml.symm) hS hAN hN d_M_instruction_33 d_M_instruction_36 d_M_instruction_37 d_M_instruction_39 d_M_instruction_42 (Nat.le_of_ble_eq_true rfl) (Nat.le_of_ble_eq_true rfl) (Nat.le_of_ble_eq_true rfl) (Nat.le_of_ble_eq_true rfl) (fun H1 up => ⟨(), P_up hP up, hD⟩)
  · refine lv_iload_n hx hb d_M_instruction_11 rfl (lv_at hl 3 rfl) ?_
    refine lv_bipush (v := 7) hx hb d_M_instruction_12 (by decide) ?_
    refine lv_icmp_gt (tgt := 33) hx hb d_M_instruction_14 (by decide) (fun c_14 => ?_) (fun c_14 => ?_)
    · rw [hQ]; exact w_throw (X := "java/lang/IllegalArgumentException") (tx := "no such instruction") (ic := 80) (ik := 76) (is := 78) (N := N) hx hb hl0 hlocks hown th2 kx4_A ht hE.1 (by decide) kx1_A kx2_A kx3_A hmt (hl.1.trans hml.symm) hS hAN hN d_M_instruction_33 d_M_instruction_36 d_M_instruction_37 d_M_instruction_39 d_M_instruction_42 (Nat.le_of_ble_eq_true rfl) (Nat.le_of_ble_eq_true rfl) (Nat.le_of_ble_eq_true rfl) (Nat.le_of_ble_eq_true rfl) (fun H1 up => ⟨(), P_up hP up, hD⟩)
    · refine lv_iload_n hx hb d_M_instruction_17 rfl (lv_at hl 4 rfl) ?_
      refine goRi (va_runS (As := [.int ra]) (rest := []) ⟨hx, hb, hml, hown, hts⟩ (c_M_isRegister l D cI cL cO ra) (cwS 1 hts (gBIG (m3 k_ml_M_68 k_st_M_isRegister k_ini_M) k_co_M_isRegister) rfl rfl rfl (by decide +kernel) ⟨Nat.le_of_ble_eq_true rfl, Nat.le_of_ble_eq_true rfl⟩) ⟨PR.bl, PR.pre P_nil hK⟩ rfl rfl hl.1 rfl (lv_room (Nat.le_of_ble_eq_true rfl)) d_M_instruction_18 ⟨Nat.le_of_ble_eq_true rfl, Nat.le_of_ble_eq_true rfl⟩) ?_
      refine lv_if_eq (tgt := 33) hx hb d_M_instruction_21 (by decide) (fun c_21 => ?_) (fun c_21 => ?_)
      · rw [hQ]; exact w_throw (X := "java/lang/IllegalArgumentException") (tx := "no such instruction") (ic := 80) (ik := 76) (is := 78) (N := N) hx hb hl0 hlocks hown th2 kx4_A ht hE.1 (by decide) kx1_A kx2_A kx3_A hmt (hl.1.trans hml.symm) hS hAN hN d_M_instruction_33 d_M_instruction_36 d_M_instruction_37 d_M_instruction_39 d_M_instruction_42 (Nat.le_of_ble_eq_true rfl) (Nat.le_of_ble_eq_true rfl) (Nat.le_of_ble_eq_true rfl) (Nat.le_of_ble_eq_true rfl) (fun H1 up => ⟨(), P_up hP up, hD⟩)
      · refine lv_iload_n hx hb d_M_instruction_24 rfl (lv_at hl 3 rfl) ?_
        refine lv_iload hx hb d_M_instruction_25 (lv_at hl 5 rfl) ?_
        refine goRi (va_runS (As := [.int op, .int x]) (rest := []) ⟨hx, hb, hml, hown, hts⟩ (c_M_isOperand l D cI cL cO op x) (cwS 2 hts (gBIG (m3 k_ml_M_72 k_st_M_isOperand k_ini_M) k_co_M_isOperand) rfl rfl rfl (by decide +kernel) ⟨Nat.le_of_ble_eq_true rfl, Nat.le_of_ble_eq_true rfl⟩) ⟨PR.bl, PR.pre P_nil hK⟩ rfl rfl hl.1 rfl (lv_room (Nat.le_of_ble_eq_true rfl)) d_M_instruction_27 ⟨Nat.le_of_ble_eq_true rfl, Nat.le_of_ble_eq_true rfl⟩) ?_
        refine lv_if_ne (tgt := 43) hx hb d_M_instruction_30 (by decide) (fun c_30 => ?_) (fun c_30 => ?_)
        · exact (hbx.elim c_8 (fun h => h.elim c_14 (fun h => h.elim c_21 c_30))).elim
        · rw [hQ]; exact w_throw (X := "java/lang/IllegalArgumentException") (tx := "no such instruction") (ic := 80) (ik := 76) (is := 78) (N := N) hx hb hl0 hlocks hown th2 kx4_A ht hE.1 (by decide) kx1_A kx2_A kx3_A hmt (hl.1.trans hml.symm) hS hAN hN d_M_instruction_33 d_M_instruction_36 d_M_instruction_37 d_M_instruction_39 d_M_instruction_42 (Nat.le_of_ble_eq_true rfl) (Nat.le_of_ble_eq_true rfl) (Nat.le_of_ble_eq_true rfl) (Nat.le_of_ble_eq_true rfl) (fun H1 up => ⟨(), P_up hP up, hD⟩)

set_option maxHeartbeats 1000000 in
set_option maxRecDepth 100000 in
theorem c_M_instructionU (l : Launch) (D : va_G) (cI cL cO : ClassId) (N t0 mi : Nat) (hl0 : l.stackTraces = false) (x0 : Nat) (lim : Int32) (a0 : Nat) (k0 : Nat) (u0 : Nat) (v0 : Nat) (t1 : Nat) (gen : Int32) (wrg : Int32) (rns : Int32) (als : Int32) (d0 : Nat) (sz : Int32) (mo : Int32) (cap : Nat) (rf : Nat → Option Nat) (h0 : Nat) (q1 : Nat) (q2 : Nat) (q3 : Nat) (q4 : Nat) (q5 : Nat) (o : Fn) (f : Fn) (ee : Fn) (t : Fn) (b : Fn) (ic : Int32) (bc : Int32) (sa : Int32) (gn : Int32) (fr : va_W) (bi : Int32) (op : Int32) (ra : Int32) (x : Int32) (hi0 : ¬ bi < 0) (hi1 : bi < sz) (hi2 : vp_in bi cap) (hi3 : rf bi.toNatClampNeg = some h0) (v1 : ¬ op < 0) (v2 : ¬ 7 < op) (v3 : ¬ isReg ra = 0) (v4 : ¬ isOpnd op x = 0) (v5 : ¬ ic < 60) : CT l y_M_instruction w_M_instruction ({ frames := 6, cells := 1, slots := 6, locals := 85 }) D cI cL cO N t0 mi [.ref x0, .int bi, .int op, .int ra, .int x] ((wX x0 lim a0 k0 u0 v0 t1 gen wrg rns als) ++ ((wH a0 d0 sz mo) ++ ((wR cO d0 cap rf) ++ ((wB cI h0 q1 q2 q3 q4 q5 o f ee t b ic bc sa gn) ++ fr)))) "java/lang/UnsupportedOperationException" (fun u : Unit => ((wX x0 lim a0 k0 u0 v0 t1 gen wrg rns als) ++ ((wH a0 d0 sz mo) ++ ((wR cO d0 cap rf) ++ ((wB cI h0 q1 q2 q3 q4 q5 o f ee t b ic bc sa gn) ++ fr))))) 1 6 := by
  refine ofT (cc := b_M_instruction) (maxL := 6) (ret := (some .int)) (by decide) rfl (Nat.le_of_ble_eq_true rfl) ?_
  intro p e s m below meth c A ls H Q hQ hx hb hr hlocks hmt hts hown hml hP hK hD hS hA hl hE hN hAN
  have hl : lv_has ls 6 [(0, .ref x0), (1, .int bi), (2, .int op), (3, .int ra), (4, .int x)] := hl
  have hown : s.vm.findClass R_M = some m.cls := hown
  have ht : ∀ w ∈ BIG, w.before _ s = true := fun w h => hts w (List.mem_cons_of_mem _ h)
  refine lv_aload_n hx hb d_M_instruction_0 rfl (lv_at hl 0 rfl) ?_
  refine lv_iload_n hx hb d_M_instruction_1 rfl (lv_at hl 1 rfl) ?_
  refine goRv (va_runV (As := [.int bi]) (rest := []) ⟨hx, hb, hml, hown, hts⟩ (c_M_find l D cI cL cO x0 lim a0 k0 u0 v0 t1 gen wrg rns als d0 sz mo cap rf h0 q1 q2 q3 q4 q5 o f ee t b ic bc sa gn bi hi0 hi1 hi2 hi3) (cwV 1 hts (gBIG (m4 k_ml_M_64 k_im_M_find k_sel_M_find k_ini_M) k_co_M_find) rfl rfl rfl (by decide +kernel) ⟨Nat.le_of_ble_eq_true rfl, Nat.le_of_ble_eq_true rfl⟩) ⟨PR.bl, va_recv hK.1 (P_app.mpr ⟨(P_app.mp hP).1, (P_app.mpr ⟨(P_app.mp (P_app.mp hP).2).1, (P_app.mpr ⟨(P_app.mp (P_app.mp (P_app.mp hP).2).2).1, (P_app.mp (P_app.mp (P_app.mp (P_app.mp hP).2).2).2).1⟩)⟩)⟩) (ci := 3) (q0 := 0) rfl rfl, PR.pre (P_app.mpr ⟨(P_app.mp hP).1, (P_app.mpr ⟨(P_app.mp (P_app.mp hP).2).1, (P_app.mpr ⟨(P_app.mp (P_app.mp (P_app.mp hP).2).2).1, (P_app.mp (P_app.mp (P_app.mp (P_app.mp hP).2).2).2).1⟩)⟩)⟩) hK⟩ rfl rfl hl.1 rfl (lv_room (Nat.le_of_ble_eq_true rfl)) d_M_instruction_2 ⟨Nat.le_of_ble_eq_true rfl, Nat.le_of_ble_eq_true rfl⟩) ?_
  refine lv_astore (lv' := [(5, .ref h0), (0, .ref x0), (1, .int bi), (2, .int op), (3, .int ra), (4, .int x)]) hx hb d_M_instruction_5 hl (by decide) rfl (fun ls hl => ?_)
  refine lv_iload_n hx hb d_M_instruction_7 rfl (lv_at hl 3 rfl) ?_
  refine lv_if_lt (tgt := 33) hx hb d_M_instruction_8 (by decide) (fun c_8 => ?_) (fun c_8 => ?_)
  · exact absurd c_8 v1
  · refine lv_iload_n hx hb d_M_instruction_11 rfl (lv_at hl 3 rfl) ?_
    refine lv_bipush (v := 7) hx hb d_M_instruction_12 (by decide) ?_
    refine lv_icmp_gt (tgt := 33) hx hb d_M_instruction_14 (by decide) (fun c_14 => ?_) (fun c_14 => ?_)
    · exact absurd c_14 v2
    · refine lv_iload_n hx hb d_M_instruction_17 rfl (lv_at hl 4 rfl) ?_
      refine goRi (va_runS (As := [.int ra]) (rest := []) ⟨hx, hb, hml, hown, hts⟩ (c_M_isRegister l D cI cL cO ra) (cwS 1 hts (gBIG (m3 k_ml_M_68 k_st_M_isRegister k_ini_M) k_co_M_isRegister) rfl rfl rfl (by decide +kernel) ⟨Nat.le_of_ble_eq_true rfl, Nat.le_of_ble_eq_true rfl⟩) ⟨PR.bl, PR.pre P_nil hK⟩ rfl rfl hl.1 rfl (lv_room (Nat.le_of_ble_eq_true rfl)) d_M_instruction_18 ⟨Nat.le_of_ble_eq_true rfl, Nat.le_of_ble_eq_true rfl⟩) ?_
      refine lv_if_eq (tgt := 33) hx hb d_M_instruction_21 (by decide) (fun c_21 => ?_) (fun c_21 => ?_)
      · exact absurd c_21 v3
      · refine lv_iload_n hx hb d_M_instruction_24 rfl (lv_at hl 3 rfl) ?_
        refine lv_iload hx hb d_M_instruction_25 (lv_at hl 5 rfl) ?_
        refine goRi (va_runS (As := [.int op, .int x]) (rest := []) ⟨hx, hb, hml, hown, hts⟩ (c_M_isOperand l D cI cL cO op x) (cwS 2 hts (gBIG (m3 k_ml_M_72 k_st_M_isOperand k_ini_M) k_co_M_isOperand) rfl rfl rfl (by decide +kernel) ⟨Nat.le_of_ble_eq_true rfl, Nat.le_of_ble_eq_true rfl⟩) ⟨PR.bl, PR.pre P_nil hK⟩ rfl rfl hl.1 rfl (lv_room (Nat.le_of_ble_eq_true rfl)) d_M_instruction_27 ⟨Nat.le_of_ble_eq_true rfl, Nat.le_of_ble_eq_true rfl⟩) ?_
        refine lv_if_ne (tgt := 43) hx hb d_M_instruction_30 (by decide) (fun c_30 => ?_) (fun c_30 => ?_)
        · refine lv_aload hx hb d_M_instruction_43 (lv_at hl 0 rfl) ?_
          refine va_getN (ci := 0) (v := .int ic) (C := R_B) (T := T_B) (N := 9) hx hb ht in_B hown hK.1 hP 3 rfl rfl 5 (by decide) (va_Nw.use rfl (hK.2 _ n_fl_M_81)) (fun _ h9 => h9) rfl d_M_instruction_45 ?_
          refine lv_bipush (v := 60) hx hb d_M_instruction_48 (by decide) ?_
          refine lv_icmp_lt (tgt := 63) hx hb d_M_instruction_50 (by decide) (fun c_50 => ?_) (fun c_50 => ?_)
          · exact absurd c_50 v5
          · rw [hQ]; exact w_throw (X := "java/lang/UnsupportedOperationException") (tx := "there are sixty instructions") (ic := 54) (ik := 50) (is := 84) (N := N) hx hb hl0 hlocks hown th1 kx4_U ht hE.1 (by decide) kx1_U kx2_U kx3_U hmt (hl.1.trans hml.symm) hS hAN hN d_M_instruction_53 d_M_instruction_56 d_M_instruction_57 d_M_instruction_59 d_M_instruction_62 (Nat.le_of_ble_eq_true rfl) (Nat.le_of_ble_eq_true rfl) (Nat.le_of_ble_eq_true rfl) (Nat.le_of_ble_eq_true rfl) (fun H1 up => ⟨(), P_up hP up, hD⟩)
        · exact absurd c_30 v4

def mkM (o f ee t b : Fn) (ic gen : Int32) : Int32 × Fn × Int32 × Int32 × Int32 := if canF t ic = 0 then (-1, b, 0, 0, -1) else ((wrA o f ee t ic b).2, (wrA o f ee t ic b).1, (wrA o f ee t ic b).2, 1, gen)
abbrev w_M_make : List Cond := .code y_M_make b_M_make 3 (some .int) :: BIG
set_option maxHeartbeats 1000000 in
set_option maxRecDepth 100000 in
theorem c_M_make (l : Launch) (D : va_G) (cI cL cO : ClassId) (x0 : Nat) (lim : Int32) (a0 : Nat) (k0 : Nat) (u0 : Nat) (v0 : Nat) (t1 : Nat) (gen : Int32) (wrg : Int32) (rns : Int32) (als : Int32) (d0 : Nat) (sz : Int32) (mo : Int32) (cap : Nat) (rf : Nat → Option Nat) (h0 : Nat) (q1 : Nat) (q2 : Nat) (q3 : Nat) (q4 : Nat) (q5 : Nat) (o : Fn) (f : Fn) (ee : Fn) (t : Fn) (b : Fn) (ic : Int32) (bc : Int32) (sa : Int32) (gn : Int32) (fr : va_W) (bi : Int32) (hi0 : ¬ bi < 0) (hi1 : bi < sz) (hi2 : vp_in bi cap) (hi3 : rf bi.toNatClampNeg = some h0) : CMi l y_M_make w_M_make ({ frames := 4, cells := 0, slots := 0, locals := 87 }) D cI cL cO [.ref x0, .int bi] ((wX x0 lim a0 k0 u0 v0 t1 gen wrg rns als) ++ ((wH a0 d0 sz mo) ++ ((wR cO d0 cap rf) ++ ((wB cI h0 q1 q2 q3 q4 q5 o f ee t b ic bc sa gn) ++ fr)))) (fun (r : Int32) (u : Fn × Int32 × Int32 × Int32) => (r, u) = mkM o f ee t b ic gen) (fun u : Fn × Int32 × Int32 × Int32 => ((wX x0 lim a0 k0 u0 v0 t1 gen wrg rns als) ++ ((wH a0 d0 sz mo) ++ ((wR cO d0 cap rf) ++ ((wB cI h0 q1 q2 q3 q4 q5 o f ee t u.1 ic u.2.1 u.2.2.1 u.2.2.2) ++ fr))))) 0 0 := by
  refine ofMi (cc := b_M_make) (maxL := 3) (ret := (some .int)) (by decide) rfl (Nat.le_of_ble_eq_true rfl) ?_
  intro p e s m below meth c A ls H Q hQ hx hb hr hlocks hin hts hown hml hP hK hD hS hA hl
  have hl : lv_has ls 3 [(0, .ref x0), (1, .int bi)] := hl
  have hown : s.vm.findClass R_M = some m.cls := hown
  have ht : ∀ w ∈ BIG, w.before _ s = true := fun w h => hts w (List.mem_cons_of_mem _ h)
  refine lv_aload_n hx hb d_M_make_0 rfl (lv_at hl 0 rfl) ?_
  refine lv_iload_n hx hb d_M_make_1 rfl (lv_at hl 1 rfl) ?_
  refine goRv (va_runV (As := [.int bi]) (rest := []) ⟨hx, hb, hml, hown, hts⟩ (c_M_find l D cI cL cO x0 lim a0 k0 u0 v0 t1 gen wrg rns als d0 sz mo cap rf h0 q1 q2 q3 q4 q5 o f ee t b ic bc sa gn bi hi0 hi1 hi2 hi3) (cwV 1 hts (gBIG (m4 k_ml_M_64 k_im_M_find k_sel_M_find k_ini_M) k_co_M_find) rfl rfl rfl (by decide +kernel) ⟨Nat.le_of_ble_eq_true rfl, Nat.le_of_ble_eq_true rfl⟩) ⟨PR.bl, va_recv hK.1 (P_app.mpr ⟨(P_app.mp hP).1, (P_app.mpr ⟨(P_app.mp (P_app.mp hP).2).1, (P_app.mpr ⟨(P_app.mp (P_app.mp (P_app.mp hP).2).2).1, (P_app.mp (P_app.mp (P_app.mp (P_app.mp hP).2).2).2).1⟩)⟩)⟩) (ci := 3) (q0 := 0) rfl rfl, PR.pre (P_app.mpr ⟨(P_app.mp hP).1, (P_app.mpr ⟨(P_app.mp (P_app.mp hP).2).1, (P_app.mpr ⟨(P_app.mp (P_app.mp (P_app.mp hP).2).2).1, (P_app.mp (P_app.mp (P_app.mp (P_app.mp hP).2).2).2).1⟩)⟩)⟩) hK⟩ rfl rfl hl.1 rfl (lv_room (Nat.le_of_ble_eq_true rfl)) d_M_make_2 ⟨Nat.le_of_ble_eq_true rfl, Nat.le_of_ble_eq_true rfl⟩) ?_
  refine lv_astore_n (lv' := [(2, .ref h0), (0, .ref x0), (1, .int bi)]) hx hb d_M_make_5 rfl hl (by decide) rfl (fun ls hl => ?_)
  refine lv_aload_n hx hb d_M_make_6 rfl (lv_at hl 0 rfl) ?_
  refine goRi (va_runVN (As := []) (rest := []) ⟨hx, hb, hml, hown, hts⟩ (c_B_canBeMade l D cI cL cO h0 q1 q2 q3 q4 q5 o f ee t b ic bc sa gn) ⟨va_cnB 0 hts (gB0 k_co_B_canBeMade) rfl rfl rfl (hK.2 _ n_ml_M_93) (ht _ k_ini_B) (by decide +kernel) ⟨Nat.le_of_ble_eq_true rfl, Nat.le_of_ble_eq_true rfl⟩, ht _ k_im_B_canBeMade, ht _ k_sel_B_canBeMade⟩ ⟨PR.bl, va_recv hK.1 ((P_app.mp (P_app.mp (P_app.mp (P_app.mp hP).2).2).2).1) (ci := 0) (q0 := 0) rfl rfl, PR.pre ((P_app.mp (P_app.mp (P_app.mp (P_app.mp hP).2).2).2).1) hK⟩ rfl rfl hl.1 rfl (lv_room (Nat.le_of_ble_eq_true rfl)) d_M_make_7 ⟨Nat.le_of_ble_eq_true rfl, Nat.le_of_ble_eq_true rfl⟩) ?_
  refine lv_if_ne (tgt := 19) hx hb d_M_make_10 (by decide) (fun c_10 => ?_) (fun c_10 => ?_)
  · refine lv_aload_n hx hb d_M_make_19 rfl (lv_at hl 0 rfl) ?_
    have hP := P_sw2 hP
    have hD := D_sw2 hD
    have hP := P_sw1 hP
    have hD := D_sw1 hD
    have hP := P_sw hP
    have hD := D_sw hD
    refine goMv (va_runVN (As := []) (rest := []) ⟨hx, hb, hml, hown, hts⟩ (c_B_writeBytes l D cI cL cO h0 q1 q2 q3 q4 q5 o f ee t b ic bc sa gn ((wX x0 lim a0 k0 u0 v0 t1 gen wrg rns als) ++ ((wH a0 d0 sz mo) ++ ((wR cO d0 cap rf) ++ fr))) H.size) ⟨va_cnB 0 hts (gB0 k_co_B_writeBytes) rfl rfl rfl (hK.2 _ n_ml_M_97) (ht _ k_ini_B) (by decide +kernel) ⟨Nat.le_of_ble_eq_true rfl, Nat.le_of_ble_eq_true rfl⟩, ht _ k_im_B_writeBytes, ht _ k_sel_B_writeBytes⟩ ⟨PM.bl, va_recv hK.1 hP (ci := 0) (q0 := 0) rfl rfl, PM.pre hP hD hK⟩ rfl rfl hl.1 rfl (lv_room (Nat.le_of_ble_eq_true rfl)) d_M_make_20 ⟨Nat.le_of_ble_eq_true rfl, Nat.le_of_ble_eq_true rfl⟩) hD hS hA (fun u H locs hw hP hD hS => ?_)
    obtain ⟨b_20, bc_20⟩ := u
    have e_20 : (b_20, bc_20) = wrA o f ee t ic b ∧ ¬ bc_20 < 0 := hw
    have hP : va_P D vwCl ((wB cI h0 q1 q2 q3 q4 q5 o f ee t b_20 ic bc_20 sa gn) ++ ((wX x0 lim a0 k0 u0 v0 t1 gen wrg rns als) ++ ((wH a0 d0 sz mo) ++ ((wR cO d0 cap rf) ++ fr)))) H := hP
    have hD : va_D A ((wB cI h0 q1 q2 q3 q4 q5 o f ee t b_20 ic bc_20 sa gn) ++ ((wX x0 lim a0 k0 u0 v0 t1 gen wrg rns als) ++ ((wH a0 d0 sz mo) ++ ((wR cO d0 cap rf) ++ fr)))) := hD
    have hP := P_sw hP
    have hD := D_sw hD
    have hP := P_sw1 hP
    have hD := D_sw1 hD
    have hP := P_sw2 hP
    have hD := D_sw2 hD
    have hP : va_P D vwCl ((wX x0 lim a0 k0 u0 v0 t1 gen wrg rns als) ++ ((wH a0 d0 sz mo) ++ ((wR cO d0 cap rf) ++ ((wB cI h0 q1 q2 q3 q4 q5 o f ee t b_20 ic bc_20 sa gn) ++ fr)))) H := hP
    have hD : va_D A ((wX x0 lim a0 k0 u0 v0 t1 gen wrg rns als) ++ ((wH a0 d0 sz mo) ++ ((wR cO d0 cap rf) ++ ((wB cI h0 q1 q2 q3 q4 q5 o f ee t b_20 ic bc_20 sa gn) ++ fr)))) := hD
    refine lv_aload_n hx hb d_M_make_23 rfl (lv_at hl 0 rfl) ?_
    refine lv_iconst (v := 1) hx hb d_M_make_24 (by decide) ?_
    refine va_putN (ci := 0) (v := .int 1) (ty := .int) (C := R_B) (T := T_B) (N := 9) hx hb ht in_B t_B t_B_ok n_B hown hK.1 hP hD hS 3 rfl rfl 7 (by decide) (va_Nw.use rfl (hK.2 _ n_fl_M_100)) (fun _ h9 => h9) rfl (by decide +kernel) rfl rfl (Nat.le_of_ble_eq_true rfl) d_M_make_25 (fun H locs hP hD hS => ?_)
    have hP : va_P D vwCl ((wX x0 lim a0 k0 u0 v0 t1 gen wrg rns als) ++ ((wH a0 d0 sz mo) ++ ((wR cO d0 cap rf) ++ ((wB cI h0 q1 q2 q3 q4 q5 o f ee t b_20 ic bc_20 1 gn) ++ fr)))) H := hP
    have hD : va_D A ((wX x0 lim a0 k0 u0 v0 t1 gen wrg rns als) ++ ((wH a0 d0 sz mo) ++ ((wR cO d0 cap rf) ++ ((wB cI h0 q1 q2 q3 q4 q5 o f ee t b_20 ic bc_20 1 gn) ++ fr)))) := hD
    refine lv_aload_n hx hb d_M_make_28 rfl (lv_at hl 0 rfl) ?_
    refine lv_aload_n hx hb d_M_make_29 rfl (lv_at hl 1 rfl) ?_
    refine va_get (ci := 3) (v := .int gen) (C := R_M) (T := T_M) (N := 10) hx hb ht in_M hown hK.1 hP 0 rfl rfl 6 (by decide) (ht _ k_fl_M_103) (fun _ h9 => h9) rfl d_M_make_30 ?_
    refine va_putN (ci := 0) (v := .int gen) (ty := .int) (C := R_B) (T := T_B) (N := 9) hx hb ht in_B t_B t_B_ok n_B hown hK.1 hP hD hS 3 rfl rfl 8 (by decide) (va_Nw.use rfl (hK.2 _ n_fl_M_106)) (fun _ h9 => h9) rfl (by decide +kernel) rfl rfl (Nat.le_of_ble_eq_true rfl) d_M_make_33 (fun H locs hP hD hS => ?_)
    have hP : va_P D vwCl ((wX x0 lim a0 k0 u0 v0 t1 gen wrg rns als) ++ ((wH a0 d0 sz mo) ++ ((wR cO d0 cap rf) ++ ((wB cI h0 q1 q2 q3 q4 q5 o f ee t b_20 ic bc_20 1 gen) ++ fr)))) H := hP
    have hD : va_D A ((wX x0 lim a0 k0 u0 v0 t1 gen wrg rns als) ++ ((wH a0 d0 sz mo) ++ ((wR cO d0 cap rf) ++ ((wB cI h0 q1 q2 q3 q4 q5 o f ee t b_20 ic bc_20 1 gen) ++ fr)))) := hD
    refine lv_aload_n hx hb d_M_make_36 rfl (lv_at hl 0 rfl) ?_
    refine va_getN (ci := 0) (v := .int bc_20) (C := R_B) (T := T_B) (N := 9) hx hb ht in_B hown hK.1 hP 3 rfl rfl 6 (by decide) (va_Nw.use rfl (hK.2 _ n_fl_M_107)) (fun _ h9 => h9) rfl d_M_make_37 ?_
    rw [hQ]; exact retMi (w1 := fun u : Fn × Int32 × Int32 × Int32 => ((wX x0 lim a0 k0 u0 v0 t1 gen wrg rns als) ++ ((wH a0 d0 sz mo) ++ ((wR cO d0 cap rf) ++ ((wB cI h0 q1 q2 q3 q4 q5 o f ee t u.1 ic u.2.1 u.2.2.1 u.2.2.2) ++ fr))))) (b_20, bc_20, 1, gen) hx hb hr hlocks hP hD hS (by obtain ⟨e1, -⟩ := e_20; simp only [mkM]; rw [if_neg c_10, ← e1]) d_M_make_40
  · refine lv_aload_n hx hb d_M_make_13 rfl (lv_at hl 0 rfl) ?_
    have hP := P_sw2 hP
    have hD := D_sw2 hD
    have hP := P_sw1 hP
    have hD := D_sw1 hD
    have hP := P_sw hP
    have hD := D_sw hD
    refine goMv (va_runVN (As := []) (rest := []) ⟨hx, hb, hml, hown, hts⟩ (c_B_becomeRows l D cI cL cO h0 q1 q2 q3 q4 q5 o f ee t b ic bc sa gn ((wX x0 lim a0 k0 u0 v0 t1 gen wrg rns als) ++ ((wH a0 d0 sz mo) ++ ((wR cO d0 cap rf) ++ fr))) H.size) ⟨va_cnB 0 hts (gB0 k_co_B_becomeRows) rfl rfl rfl (hK.2 _ n_ml_M_90) (ht _ k_ini_B) (by decide +kernel) ⟨Nat.le_of_ble_eq_true rfl, Nat.le_of_ble_eq_true rfl⟩, ht _ k_im_B_becomeRows, ht _ k_sel_B_becomeRows⟩ ⟨PM.bl, va_recv hK.1 hP (ci := 0) (q0 := 0) rfl rfl, PM.pre hP hD hK⟩ rfl rfl hl.1 rfl (lv_room (Nat.le_of_ble_eq_true rfl)) d_M_make_14 ⟨Nat.le_of_ble_eq_true rfl, Nat.le_of_ble_eq_true rfl⟩) hD hS hA (fun u H locs hw hP hD hS => ?_)
    obtain ⟨bc_14, sa_14, gn_14⟩ := u
    have e_14 : (bc_14, sa_14, gn_14) = (0, 0, -1) := hw
    have hP : va_P D vwCl ((wB cI h0 q1 q2 q3 q4 q5 o f ee t b ic bc_14 sa_14 gn_14) ++ ((wX x0 lim a0 k0 u0 v0 t1 gen wrg rns als) ++ ((wH a0 d0 sz mo) ++ ((wR cO d0 cap rf) ++ fr)))) H := hP
    have hD : va_D A ((wB cI h0 q1 q2 q3 q4 q5 o f ee t b ic bc_14 sa_14 gn_14) ++ ((wX x0 lim a0 k0 u0 v0 t1 gen wrg rns als) ++ ((wH a0 d0 sz mo) ++ ((wR cO d0 cap rf) ++ fr)))) := hD
    have hP := P_sw hP
    have hD := D_sw hD
    have hP := P_sw1 hP
    have hD := D_sw1 hD
    have hP := P_sw2 hP
    have hD := D_sw2 hD
    have hP : va_P D vwCl ((wX x0 lim a0 k0 u0 v0 t1 gen wrg rns als) ++ ((wH a0 d0 sz mo) ++ ((wR cO d0 cap rf) ++ ((wB cI h0 q1 q2 q3 q4 q5 o f ee t b ic bc_14 sa_14 gn_14) ++ fr)))) H := hP
    have hD : va_D A ((wX x0 lim a0 k0 u0 v0 t1 gen wrg rns als) ++ ((wH a0 d0 sz mo) ++ ((wR cO d0 cap rf) ++ ((wB cI h0 q1 q2 q3 q4 q5 o f ee t b ic bc_14 sa_14 gn_14) ++ fr)))) := hD
    refine lv_iconst (v := (-1)) hx hb d_M_make_17 (by decide) ?_
    rw [hQ]; exact retMi (w1 := fun u : Fn × Int32 × Int32 × Int32 => ((wX x0 lim a0 k0 u0 v0 t1 gen wrg rns als) ++ ((wH a0 d0 sz mo) ++ ((wR cO d0 cap rf) ++ ((wB cI h0 q1 q2 q3 q4 q5 o f ee t u.1 ic u.2.1 u.2.2.1 u.2.2.2) ++ fr))))) (b, bc_14, sa_14, gn_14) hx hb hr hlocks hP hD hS (by cases e_14; simp only [mkM]; rw [if_pos c_10]) d_M_make_18

set_option maxHeartbeats 1000000 in
set_option maxRecDepth 100000 in
theorem c_M_makeX (l : Launch) (D : va_G) (cI cL cO : ClassId) (N t0 mi : Nat) (hl0 : l.stackTraces = false) (x0 : Nat) (lim : Int32) (a0 : Nat) (k0 : Nat) (u0 : Nat) (v0 : Nat) (t1 : Nat) (gen : Int32) (wrg : Int32) (rns : Int32) (als : Int32) (d0 : Nat) (sz : Int32) (mo : Int32) (fr : va_W) (bi : Int32) (hbad : bi < 0 ∨ ¬ bi < sz) : CT l y_M_make w_M_make ({ frames := 7, cells := 1, slots := 6, locals := 103 }) D cI cL cO N t0 mi [.ref x0, .int bi] ((wX x0 lim a0 k0 u0 v0 t1 gen wrg rns als) ++ ((wH a0 d0 sz mo) ++ fr)) "java/lang/IndexOutOfBoundsException" (fun u : Unit => ((wX x0 lim a0 k0 u0 v0 t1 gen wrg rns als) ++ ((wH a0 d0 sz mo) ++ fr))) 1 6 := by
  refine ofT (cc := b_M_make) (maxL := 3) (ret := (some .int)) (by decide) rfl (Nat.le_of_ble_eq_true rfl) ?_
  intro p e s m below meth c A ls H Q hQ hx hb hr hlocks hmt hts hown hml hP hK hD hS hA hl hE hN hAN
  have hl : lv_has ls 3 [(0, .ref x0), (1, .int bi)] := hl
  have hown : s.vm.findClass R_M = some m.cls := hown
  have ht : ∀ w ∈ BIG, w.before _ s = true := fun w h => hts w (List.mem_cons_of_mem _ h)
  refine lv_aload_n hx hb d_M_make_0 rfl (lv_at hl 0 rfl) ?_
  refine lv_iload_n hx hb d_M_make_1 rfl (lv_at hl 1 rfl) ?_
  rw [hQ]; exact passT (runT (As := [.int bi]) (rest := []) ⟨hx, hb, hml, hown, hts⟩ (c_M_findT l D cI cL cO N t0 mi hl0 x0 lim a0 k0 u0 v0 t1 gen wrg rns als d0 sz mo fr bi hbad H.size) (cwV 1 hts (gBIG (m4 k_ml_M_64 k_im_M_find k_sel_M_find k_ini_M) k_co_M_find) rfl rfl rfl (by decide +kernel) ⟨Nat.le_of_ble_eq_true rfl, Nat.le_of_ble_eq_true rfl⟩) ⟨PX.bl, va_recv hK.1 hP (ci := 3) (q0 := 0) rfl rfl, PX.pre hP hD hK hE hS hAN hN⟩ rfl rfl hl.1 rfl (lv_room (Nat.le_of_ble_eq_true rfl)) d_M_make_2 ⟨Nat.le_of_ble_eq_true rfl, Nat.le_of_ble_eq_true rfl⟩) rfl rfl rfl hlocks hmt hS (A_in hD hS hA) (fun H1 h1 => by obtain ⟨u, h2, h3⟩ := h1; exact ⟨u, h2, h3.weaken (fun _ q _ h => A_in hD hS hA q.1 h)⟩)

abbrev w_M_byteAt : List Cond := .code y_M_byteAt b_M_byteAt 4 (some .int) :: BIG
set_option maxHeartbeats 1000000 in
set_option maxRecDepth 100000 in
theorem c_M_byteAt (l : Launch) (D : va_G) (cI cL cO : ClassId) (x0 : Nat) (lim : Int32) (a0 : Nat) (k0 : Nat) (u0 : Nat) (v0 : Nat) (t1 : Nat) (gen : Int32) (wrg : Int32) (rns : Int32) (als : Int32) (d0 : Nat) (sz : Int32) (mo : Int32) (cap : Nat) (rf : Nat → Option Nat) (h0 : Nat) (q1 : Nat) (q2 : Nat) (q3 : Nat) (q4 : Nat) (q5 : Nat) (o : Fn) (f : Fn) (ee : Fn) (t : Fn) (b : Fn) (ic : Int32) (bc : Int32) (sa : Int32) (gn : Int32) (bi : Int32) (i : Int32) (hi0 : ¬ bi < 0) (hi1 : bi < sz) (hi2 : vp_in bi cap) (hi3 : rf bi.toNatClampNeg = some h0) (v1 : ¬ sa = 0) (v2 : ¬ hasF bc i = 0) : CRi l y_M_byteAt w_M_byteAt ({ frames := 4, cells := 0, slots := 0, locals := 85 }) D cI cL cO [.ref x0, .int bi, .int i] ((wX x0 lim a0 k0 u0 v0 t1 gen wrg rns als) ++ ((wH a0 d0 sz mo) ++ ((wR cO d0 cap rf) ++ (wB cI h0 q1 q2 q3 q4 q5 o f ee t b ic bc sa gn)))) (rdF b bc i) := by
  refine ofR (cc := b_M_byteAt) (maxL := 4) (ret := (some .int)) (by decide) rfl (Nat.le_of_ble_eq_true rfl) ?_
  intro p e s m below meth c ls Q hQ hx hb hr hlocks hts hown hml hP hK hl
  have hl : lv_has ls 4 [(0, .ref x0), (1, .int bi), (2, .int i)] := hl
  have hown : s.vm.findClass R_M = some m.cls := hown
  have ht : ∀ w ∈ BIG, w.before _ s = true := fun w h => hts w (List.mem_cons_of_mem _ h)
  refine lv_aload_n hx hb d_M_byteAt_0 rfl (lv_at hl 0 rfl) ?_
  refine lv_iload_n hx hb d_M_byteAt_1 rfl (lv_at hl 1 rfl) ?_
  refine goRv (va_runV (As := [.int bi]) (rest := []) ⟨hx, hb, hml, hown, hts⟩ (c_M_find l D cI cL cO x0 lim a0 k0 u0 v0 t1 gen wrg rns als d0 sz mo cap rf h0 q1 q2 q3 q4 q5 o f ee t b ic bc sa gn bi hi0 hi1 hi2 hi3) (cwV 1 hts (gBIG (m4 k_ml_M_64 k_im_M_find k_sel_M_find k_ini_M) k_co_M_find) rfl rfl rfl (by decide +kernel) ⟨Nat.le_of_ble_eq_true rfl, Nat.le_of_ble_eq_true rfl⟩) ⟨PR.bl, va_recv hK.1 (P_app.mpr ⟨(P_app.mp hP).1, (P_app.mpr ⟨(P_app.mp (P_app.mp hP).2).1, (P_app.mpr ⟨(P_app.mp (P_app.mp (P_app.mp hP).2).2).1, (P_app.mp (P_app.mp (P_app.mp hP).2).2).2⟩)⟩)⟩) (ci := 3) (q0 := 0) rfl rfl, PR.pre (P_app.mpr ⟨(P_app.mp hP).1, (P_app.mpr ⟨(P_app.mp (P_app.mp hP).2).1, (P_app.mpr ⟨(P_app.mp (P_app.mp (P_app.mp hP).2).2).1, (P_app.mp (P_app.mp (P_app.mp hP).2).2).2⟩)⟩)⟩) hK⟩ rfl rfl hl.1 rfl (lv_room (Nat.le_of_ble_eq_true rfl)) d_M_byteAt_2 ⟨Nat.le_of_ble_eq_true rfl, Nat.le_of_ble_eq_true rfl⟩) ?_
  refine lv_astore_n (lv' := [(3, .ref h0), (0, .ref x0), (1, .int bi), (2, .int i)]) hx hb d_M_byteAt_5 rfl hl (by decide) rfl (fun ls hl => ?_)
  refine lv_aload_n hx hb d_M_byteAt_6 rfl (lv_at hl 0 rfl) ?_
  refine va_getN (ci := 0) (v := .int sa) (C := R_B) (T := T_B) (N := 9) hx hb ht in_B hown hK.1 hP 3 rfl rfl 7 (by decide) (va_Nw.use rfl (hK.2 _ n_fl_M_100)) (fun _ h9 => h9) rfl d_M_byteAt_7 ?_
  refine lv_if_ne (tgt := 23) hx hb d_M_byteAt_10 (by decide) (fun c_10 => ?_) (fun c_10 => ?_)
  · refine lv_aload_n hx hb d_M_byteAt_23 rfl (lv_at hl 0 rfl) ?_
    refine lv_iload_n hx hb d_M_byteAt_24 rfl (lv_at hl 3 rfl) ?_
    refine goRi (va_runVN (As := [.int i]) (rest := []) ⟨hx, hb, hml, hown, hts⟩ (c_B_hasByte l D cI cL cO h0 q1 q2 q3 q4 q5 o f ee t b ic bc sa gn i) ⟨va_cnB 1 hts (gB0 k_co_B_hasByte) rfl rfl rfl (hK.2 _ n_ml_M_115) (ht _ k_ini_B) (by decide +kernel) ⟨Nat.le_of_ble_eq_true rfl, Nat.le_of_ble_eq_true rfl⟩, ht _ k_im_B_hasByte, ht _ k_sel_B_hasByte⟩ ⟨PR.bl, va_recv hK.1 ((P_app.mp (P_app.mp (P_app.mp hP).2).2).2) (ci := 0) (q0 := 0) rfl rfl, PR.pre ((P_app.mp (P_app.mp (P_app.mp hP).2).2).2) hK⟩ rfl rfl hl.1 rfl (lv_room (Nat.le_of_ble_eq_true rfl)) d_M_byteAt_25 ⟨Nat.le_of_ble_eq_true rfl, Nat.le_of_ble_eq_true rfl⟩) ?_
    refine lv_if_ne (tgt := 41) hx hb d_M_byteAt_28 (by decide) (fun c_28 => ?_) (fun c_28 => ?_)
    · refine lv_aload_n hx hb d_M_byteAt_41 rfl (lv_at hl 0 rfl) ?_
      refine lv_iload_n hx hb d_M_byteAt_42 rfl (lv_at hl 3 rfl) ?_
      refine goRi (va_runVN (As := [.int i]) (rest := []) ⟨hx, hb, hml, hown, hts⟩ (c_B_read l D cI cL cO h0 q1 q2 q3 q4 q5 o f ee t b ic bc sa gn i) ⟨va_cnB 1 hts (gB0 k_co_B_read) rfl rfl rfl (hK.2 _ n_ml_M_120) (ht _ k_ini_B) (by decide +kernel) ⟨Nat.le_of_ble_eq_true rfl, Nat.le_of_ble_eq_true rfl⟩, ht _ k_im_B_read, ht _ k_sel_B_read⟩ ⟨PR.bl, va_recv hK.1 ((P_app.mp (P_app.mp (P_app.mp hP).2).2).2) (ci := 0) (q0 := 0) rfl rfl, PR.pre ((P_app.mp (P_app.mp (P_app.mp hP).2).2).2) hK⟩ rfl rfl hl.1 rfl (lv_room (Nat.le_of_ble_eq_true rfl)) d_M_byteAt_43 ⟨Nat.le_of_ble_eq_true rfl, Nat.le_of_ble_eq_true rfl⟩) ?_
      rw [hQ]; exact retRi hx hb hr hlocks rfl d_M_byteAt_46
    · exact absurd c_28 v2
  · exact absurd c_10 v1

set_option maxHeartbeats 1000000 in
set_option maxRecDepth 100000 in
theorem c_M_byteAtX (l : Launch) (D : va_G) (cI cL cO : ClassId) (N t0 mi : Nat) (hl0 : l.stackTraces = false) (x0 : Nat) (lim : Int32) (a0 : Nat) (k0 : Nat) (u0 : Nat) (v0 : Nat) (t1 : Nat) (gen : Int32) (wrg : Int32) (rns : Int32) (als : Int32) (d0 : Nat) (sz : Int32) (mo : Int32) (fr : va_W) (bi : Int32) (i : Int32) (hbad : bi < 0 ∨ ¬ bi < sz) : CT l y_M_byteAt w_M_byteAt ({ frames := 7, cells := 1, slots := 6, locals := 103 }) D cI cL cO N t0 mi [.ref x0, .int bi, .int i] ((wX x0 lim a0 k0 u0 v0 t1 gen wrg rns als) ++ ((wH a0 d0 sz mo) ++ fr)) "java/lang/IndexOutOfBoundsException" (fun u : Unit => ((wX x0 lim a0 k0 u0 v0 t1 gen wrg rns als) ++ ((wH a0 d0 sz mo) ++ fr))) 1 6 := by
  refine ofT (cc := b_M_byteAt) (maxL := 4) (ret := (some .int)) (by decide) rfl (Nat.le_of_ble_eq_true rfl) ?_
  intro p e s m below meth c A ls H Q hQ hx hb hr hlocks hmt hts hown hml hP hK hD hS hA hl hE hN hAN
  have hl : lv_has ls 4 [(0, .ref x0), (1, .int bi), (2, .int i)] := hl
  have hown : s.vm.findClass R_M = some m.cls := hown
  have ht : ∀ w ∈ BIG, w.before _ s = true := fun w h => hts w (List.mem_cons_of_mem _ h)
  refine lv_aload_n hx hb d_M_byteAt_0 rfl (lv_at hl 0 rfl) ?_
  refine lv_iload_n hx hb d_M_byteAt_1 rfl (lv_at hl 1 rfl) ?_
  rw [hQ]; exact passT (runT (As := [.int bi]) (rest := []) ⟨hx, hb, hml, hown, hts⟩ (c_M_findT l D cI cL cO N t0 mi hl0 x0 lim a0 k0 u0 v0 t1 gen wrg rns als d0 sz mo fr bi hbad H.size) (cwV 1 hts (gBIG (m4 k_ml_M_64 k_im_M_find k_sel_M_find k_ini_M) k_co_M_find) rfl rfl rfl (by decide +kernel) ⟨Nat.le_of_ble_eq_true rfl, Nat.le_of_ble_eq_true rfl⟩) ⟨PX.bl, va_recv hK.1 hP (ci := 3) (q0 := 0) rfl rfl, PX.pre hP hD hK hE hS hAN hN⟩ rfl rfl hl.1 rfl (lv_room (Nat.le_of_ble_eq_true rfl)) d_M_byteAt_2 ⟨Nat.le_of_ble_eq_true rfl, Nat.le_of_ble_eq_true rfl⟩) rfl rfl rfl hlocks hmt hS (A_in hD hS hA) (fun H1 h1 => by obtain ⟨u, h2, h3⟩ := h1; exact ⟨u, h2, h3.weaken (fun _ q _ h => A_in hD hS hA q.1 h)⟩)

set_option maxHeartbeats 1000000 in
set_option maxRecDepth 100000 in
theorem c_M_byteAtS (l : Launch) (D : va_G) (cI cL cO : ClassId) (N t0 mi : Nat) (hl0 : l.stackTraces = false) (x0 : Nat) (lim : Int32) (a0 : Nat) (k0 : Nat) (u0 : Nat) (v0 : Nat) (t1 : Nat) (gen : Int32) (wrg : Int32) (rns : Int32) (als : Int32) (d0 : Nat) (sz : Int32) (mo : Int32) (cap : Nat) (rf : Nat → Option Nat) (h0 : Nat) (q1 : Nat) (q2 : Nat) (q3 : Nat) (q4 : Nat) (q5 : Nat) (o : Fn) (f : Fn) (ee : Fn) (t : Fn) (b : Fn) (ic : Int32) (bc : Int32) (sa : Int32) (gn : Int32) (fr : va_W) (bi : Int32) (i : Int32) (hi0 : ¬ bi < 0) (hi1 : bi < sz) (hi2 : vp_in bi cap) (hi3 : rf bi.toNatClampNeg = some h0) (v1 : sa = 0) : CT l y_M_byteAt w_M_byteAt ({ frames := 6, cells := 1, slots := 6, locals := 85 }) D cI cL cO N t0 mi [.ref x0, .int bi, .int i] ((wX x0 lim a0 k0 u0 v0 t1 gen wrg rns als) ++ ((wH a0 d0 sz mo) ++ ((wR cO d0 cap rf) ++ ((wB cI h0 q1 q2 q3 q4 q5 o f ee t b ic bc sa gn) ++ fr)))) "java/lang/IllegalStateException" (fun u : Unit => ((wX x0 lim a0 k0 u0 v0 t1 gen wrg rns als) ++ ((wH a0 d0 sz mo) ++ ((wR cO d0 cap rf) ++ ((wB cI h0 q1 q2 q3 q4 q5 o f ee t b ic bc sa gn) ++ fr))))) 1 6 := by
  refine ofT (cc := b_M_byteAt) (maxL := 4) (ret := (some .int)) (by decide) rfl (Nat.le_of_ble_eq_true rfl) ?_
  intro p e s m below meth c A ls H Q hQ hx hb hr hlocks hmt hts hown hml hP hK hD hS hA hl hE hN hAN
  have hl : lv_has ls 4 [(0, .ref x0), (1, .int bi), (2, .int i)] := hl
  have hown : s.vm.findClass R_M = some m.cls := hown
  have ht : ∀ w ∈ BIG, w.before _ s = true := fun w h => hts w (List.mem_cons_of_mem _ h)
  refine lv_aload_n hx hb d_M_byteAt_0 rfl (lv_at hl 0 rfl) ?_
  refine lv_iload_n hx hb d_M_byteAt_1 rfl (lv_at hl 1 rfl) ?_
  refine goRv (va_runV (As := [.int bi]) (rest := []) ⟨hx, hb, hml, hown, hts⟩ (c_M_find l D cI cL cO x0 lim a0 k0 u0 v0 t1 gen wrg rns als d0 sz mo cap rf h0 q1 q2 q3 q4 q5 o f ee t b ic bc sa gn bi hi0 hi1 hi2 hi3) (cwV 1 hts (gBIG (m4 k_ml_M_64 k_im_M_find k_sel_M_find k_ini_M) k_co_M_find) rfl rfl rfl (by decide +kernel) ⟨Nat.le_of_ble_eq_true rfl, Nat.le_of_ble_eq_true rfl⟩) ⟨PR.bl, va_recv hK.1 (P_app.mpr ⟨(P_app.mp hP).1, (P_app.mpr ⟨(P_app.mp (P_app.mp hP).2).1, (P_app.mpr ⟨(P_app.mp (P_app.mp (P_app.mp hP).2).2).1, (P_app.mp (P_app.mp (P_app.mp (P_app.mp hP).2).2).2).1⟩)⟩)⟩) (ci := 3) (q0 := 0) rfl rfl, PR.pre (P_app.mpr ⟨(P_app.mp hP).1, (P_app.mpr ⟨(P_app.mp (P_app.mp hP).2).1, (P_app.mpr ⟨(P_app.mp (P_app.mp (P_app.mp hP).2).2).1, (P_app.mp (P_app.mp (P_app.mp (P_app.mp hP).2).2).2).1⟩)⟩)⟩) hK⟩ rfl rfl hl.1 rfl (lv_room (Nat.le_of_ble_eq_true rfl)) d_M_byteAt_2 ⟨Nat.le_of_ble_eq_true rfl, Nat.le_of_ble_eq_true rfl⟩) ?_
  refine lv_astore_n (lv' := [(3, .ref h0), (0, .ref x0), (1, .int bi), (2, .int i)]) hx hb d_M_byteAt_5 rfl hl (by decide) rfl (fun ls hl => ?_)
  refine lv_aload_n hx hb d_M_byteAt_6 rfl (lv_at hl 0 rfl) ?_
  refine va_getN (ci := 0) (v := .int sa) (C := R_B) (T := T_B) (N := 9) hx hb ht in_B hown hK.1 hP 3 rfl rfl 7 (by decide) (va_Nw.use rfl (hK.2 _ n_fl_M_100)) (fun _ h9 => h9) rfl d_M_byteAt_7 ?_
  refine lv_if_ne (tgt := 23) hx hb d_M_byteAt_10 (by decide) (fun c_10 => ?_) (fun c_10 => ?_)
  · exact absurd v1 c_10
  · rw [hQ]; exact w_throw (X := "java/lang/IllegalStateException") (tx := "the block is rows") (ic := 114) (ik := 110) (is := 112) (N := N) hx hb hl0 hlocks hown th3 kx4_S ht hE.1 (by decide) kx1_S kx2_S kx3_S hmt (hl.1.trans hml.symm) hS hAN hN d_M_byteAt_13 d_M_byteAt_16 d_M_byteAt_17 d_M_byteAt_19 d_M_byteAt_22 (Nat.le_of_ble_eq_true rfl) (Nat.le_of_ble_eq_true rfl) (Nat.le_of_ble_eq_true rfl) (Nat.le_of_ble_eq_true rfl) (fun H1 up => ⟨(), P_up hP up, hD⟩)

set_option maxHeartbeats 1000000 in
set_option maxRecDepth 100000 in
theorem c_M_byteAtA (l : Launch) (D : va_G) (cI cL cO : ClassId) (N t0 mi : Nat) (hl0 : l.stackTraces = false) (x0 : Nat) (lim : Int32) (a0 : Nat) (k0 : Nat) (u0 : Nat) (v0 : Nat) (t1 : Nat) (gen : Int32) (wrg : Int32) (rns : Int32) (als : Int32) (d0 : Nat) (sz : Int32) (mo : Int32) (cap : Nat) (rf : Nat → Option Nat) (h0 : Nat) (q1 : Nat) (q2 : Nat) (q3 : Nat) (q4 : Nat) (q5 : Nat) (o : Fn) (f : Fn) (ee : Fn) (t : Fn) (b : Fn) (ic : Int32) (bc : Int32) (sa : Int32) (gn : Int32) (fr : va_W) (bi : Int32) (i : Int32) (hi0 : ¬ bi < 0) (hi1 : bi < sz) (hi2 : vp_in bi cap) (hi3 : rf bi.toNatClampNeg = some h0) (v1 : ¬ sa = 0) (v2 : hasF bc i = 0) : CT l y_M_byteAt w_M_byteAt ({ frames := 6, cells := 1, slots := 6, locals := 85 }) D cI cL cO N t0 mi [.ref x0, .int bi, .int i] ((wX x0 lim a0 k0 u0 v0 t1 gen wrg rns als) ++ ((wH a0 d0 sz mo) ++ ((wR cO d0 cap rf) ++ ((wB cI h0 q1 q2 q3 q4 q5 o f ee t b ic bc sa gn) ++ fr)))) "java/lang/IllegalArgumentException" (fun u : Unit => ((wX x0 lim a0 k0 u0 v0 t1 gen wrg rns als) ++ ((wH a0 d0 sz mo) ++ ((wR cO d0 cap rf) ++ ((wB cI h0 q1 q2 q3 q4 q5 o f ee t b ic bc sa gn) ++ fr))))) 1 6 := by
  refine ofT (cc := b_M_byteAt) (maxL := 4) (ret := (some .int)) (by decide) rfl (Nat.le_of_ble_eq_true rfl) ?_
  intro p e s m below meth c A ls H Q hQ hx hb hr hlocks hmt hts hown hml hP hK hD hS hA hl hE hN hAN
  have hl : lv_has ls 4 [(0, .ref x0), (1, .int bi), (2, .int i)] := hl
  have hown : s.vm.findClass R_M = some m.cls := hown
  have ht : ∀ w ∈ BIG, w.before _ s = true := fun w h => hts w (List.mem_cons_of_mem _ h)
  refine lv_aload_n hx hb d_M_byteAt_0 rfl (lv_at hl 0 rfl) ?_
  refine lv_iload_n hx hb d_M_byteAt_1 rfl (lv_at hl 1 rfl) ?_
  refine goRv (va_runV (As := [.int bi]) (rest := []) ⟨hx, hb, hml, hown, hts⟩ (c_M_find l D cI cL cO x0 lim a0 k0 u0 v0 t1 gen wrg rns als d0 sz mo cap rf h0 q1 q2 q3 q4 q5 o f ee t b ic bc sa gn bi hi0 hi1 hi2 hi3) (cwV 1 hts (gBIG (m4 k_ml_M_64 k_im_M_find k_sel_M_find k_ini_M) k_co_M_find) rfl rfl rfl (by decide +kernel) ⟨Nat.le_of_ble_eq_true rfl, Nat.le_of_ble_eq_true rfl⟩) ⟨PR.bl, va_recv hK.1 (P_app.mpr ⟨(P_app.mp hP).1, (P_app.mpr ⟨(P_app.mp (P_app.mp hP).2).1, (P_app.mpr ⟨(P_app.mp (P_app.mp (P_app.mp hP).2).2).1, (P_app.mp (P_app.mp (P_app.mp (P_app.mp hP).2).2).2).1⟩)⟩)⟩) (ci := 3) (q0 := 0) rfl rfl, PR.pre (P_app.mpr ⟨(P_app.mp hP).1, (P_app.mpr ⟨(P_app.mp (P_app.mp hP).2).1, (P_app.mpr ⟨(P_app.mp (P_app.mp (P_app.mp hP).2).2).1, (P_app.mp (P_app.mp (P_app.mp (P_app.mp hP).2).2).2).1⟩)⟩)⟩) hK⟩ rfl rfl hl.1 rfl (lv_room (Nat.le_of_ble_eq_true rfl)) d_M_byteAt_2 ⟨Nat.le_of_ble_eq_true rfl, Nat.le_of_ble_eq_true rfl⟩) ?_
  refine lv_astore_n (lv' := [(3, .ref h0), (0, .ref x0), (1, .int bi), (2, .int i)]) hx hb d_M_byteAt_5 rfl hl (by decide) rfl (fun ls hl => ?_)
  refine lv_aload_n hx hb d_M_byteAt_6 rfl (lv_at hl 0 rfl) ?_
  refine va_getN (ci := 0) (v := .int sa) (C := R_B) (T := T_B) (N := 9) hx hb ht in_B hown hK.1 hP 3 rfl rfl 7 (by decide) (va_Nw.use rfl (hK.2 _ n_fl_M_100)) (fun _ h9 => h9) rfl d_M_byteAt_7 ?_
  refine lv_if_ne (tgt := 23) hx hb d_M_byteAt_10 (by decide) (fun c_10 => ?_) (fun c_10 => ?_)
  · refine lv_aload_n hx hb d_M_byteAt_23 rfl (lv_at hl 0 rfl) ?_
    refine lv_iload_n hx hb d_M_byteAt_24 rfl (lv_at hl 3 rfl) ?_
    refine goRi (va_runVN (As := [.int i]) (rest := []) ⟨hx, hb, hml, hown, hts⟩ (c_B_hasByte l D cI cL cO h0 q1 q2 q3 q4 q5 o f ee t b ic bc sa gn i) ⟨va_cnB 1 hts (gB0 k_co_B_hasByte) rfl rfl rfl (hK.2 _ n_ml_M_115) (ht _ k_ini_B) (by decide +kernel) ⟨Nat.le_of_ble_eq_true rfl, Nat.le_of_ble_eq_true rfl⟩, ht _ k_im_B_hasByte, ht _ k_sel_B_hasByte⟩ ⟨PR.bl, va_recv hK.1 ((P_app.mp (P_app.mp (P_app.mp (P_app.mp hP).2).2).2).1) (ci := 0) (q0 := 0) rfl rfl, PR.pre ((P_app.mp (P_app.mp (P_app.mp (P_app.mp hP).2).2).2).1) hK⟩ rfl rfl hl.1 rfl (lv_room (Nat.le_of_ble_eq_true rfl)) d_M_byteAt_25 ⟨Nat.le_of_ble_eq_true rfl, Nat.le_of_ble_eq_true rfl⟩) ?_
    refine lv_if_ne (tgt := 41) hx hb d_M_byteAt_28 (by decide) (fun c_28 => ?_) (fun c_28 => ?_)
    · exact absurd v2 c_28
    · rw [hQ]; exact w_throw (X := "java/lang/IllegalArgumentException") (tx := "no such byte") (ic := 80) (ik := 76) (is := 118) (N := N) hx hb hl0 hlocks hown th2 kx4_A ht hE.1 (by decide) kx1_A kx2_A kx3_A hmt (hl.1.trans hml.symm) hS hAN hN d_M_byteAt_31 d_M_byteAt_34 d_M_byteAt_35 d_M_byteAt_37 d_M_byteAt_40 (Nat.le_of_ble_eq_true rfl) (Nat.le_of_ble_eq_true rfl) (Nat.le_of_ble_eq_true rfl) (Nat.le_of_ble_eq_true rfl) (fun H1 up => ⟨(), P_up hP up, hD⟩)
  · exact absurd c_10 v1

abbrev w_M_alter : List Cond := .code y_M_alter b_M_alter 6 (some .int) :: BIG
set_option maxHeartbeats 1000000 in
set_option maxRecDepth 100000 in
theorem c_M_alter (l : Launch) (D : va_G) (cI cL cO : ClassId) (x0 : Nat) (lim : Int32) (a0 : Nat) (k0 : Nat) (u0 : Nat) (v0 : Nat) (t1 : Nat) (gen : Int32) (wrg : Int32) (rns : Int32) (als : Int32) (d0 : Nat) (sz : Int32) (mo : Int32) (cap : Nat) (rf : Nat → Option Nat) (h0 : Nat) (q1 : Nat) (q2 : Nat) (q3 : Nat) (q4 : Nat) (q5 : Nat) (o : Fn) (f : Fn) (ee : Fn) (t : Fn) (b : Fn) (ic : Int32) (bc : Int32) (sa : Int32) (gn : Int32) (fr : va_W) (bi : Int32) (i : Int32) (v : Int32) (hi0 : ¬ bi < 0) (hi1 : bi < sz) (hi2 : vp_in bi cap) (hi3 : rf bi.toNatClampNeg = some h0) (v1 : sa = 1) (v2 : ¬ hasF bc i = 0) (v3 : ¬ v < 0) (v4 : v ≤ 255) : CMi l y_M_alter w_M_alter ({ frames := 4, cells := 0, slots := 0, locals := 85 }) D cI cL cO [.ref x0, .int bi, .int i, .int v] ((wX x0 lim a0 k0 u0 v0 t1 gen wrg rns als) ++ ((wH a0 d0 sz mo) ++ ((wR cO d0 cap rf) ++ ((wB cI h0 q1 q2 q3 q4 q5 o f ee t b ic bc sa gn) ++ fr)))) (fun (r : Int32) (u : Fn) => r = rdF b bc i ∧ u = ovF b bc i v) (fun u : Fn => ((wX x0 lim a0 k0 u0 v0 t1 gen wrg rns als) ++ ((wH a0 d0 sz mo) ++ ((wR cO d0 cap rf) ++ ((wB cI h0 q1 q2 q3 q4 q5 o f ee t u ic bc sa gn) ++ fr))))) 0 0 := by
  refine ofMi (cc := b_M_alter) (maxL := 6) (ret := (some .int)) (by decide) rfl (Nat.le_of_ble_eq_true rfl) ?_
  intro p e s m below meth c A ls H Q hQ hx hb hr hlocks hin hts hown hml hP hK hD hS hA hl
  have hl : lv_has ls 6 [(0, .ref x0), (1, .int bi), (2, .int i), (3, .int v)] := hl
  have hown : s.vm.findClass R_M = some m.cls := hown
  have ht : ∀ w ∈ BIG, w.before _ s = true := fun w h => hts w (List.mem_cons_of_mem _ h)
  refine lv_aload_n hx hb d_M_alter_0 rfl (lv_at hl 0 rfl) ?_
  refine lv_iload_n hx hb d_M_alter_1 rfl (lv_at hl 1 rfl) ?_
  refine goRv (va_runV (As := [.int bi]) (rest := []) ⟨hx, hb, hml, hown, hts⟩ (c_M_find l D cI cL cO x0 lim a0 k0 u0 v0 t1 gen wrg rns als d0 sz mo cap rf h0 q1 q2 q3 q4 q5 o f ee t b ic bc sa gn bi hi0 hi1 hi2 hi3) (cwV 1 hts (gBIG (m4 k_ml_M_64 k_im_M_find k_sel_M_find k_ini_M) k_co_M_find) rfl rfl rfl (by decide +kernel) ⟨Nat.le_of_ble_eq_true rfl, Nat.le_of_ble_eq_true rfl⟩) ⟨PR.bl, va_recv hK.1 (P_app.mpr ⟨(P_app.mp hP).1, (P_app.mpr ⟨(P_app.mp (P_app.mp hP).2).1, (P_app.mpr ⟨(P_app.mp (P_app.mp (P_app.mp hP).2).2).1, (P_app.mp (P_app.mp (P_app.mp (P_app.mp hP).2).2).2).1⟩)⟩)⟩) (ci := 3) (q0 := 0) rfl rfl, PR.pre (P_app.mpr ⟨(P_app.mp hP).1, (P_app.mpr ⟨(P_app.mp (P_app.mp hP).2).1, (P_app.mpr ⟨(P_app.mp (P_app.mp (P_app.mp hP).2).2).1, (P_app.mp (P_app.mp (P_app.mp (P_app.mp hP).2).2).2).1⟩)⟩)⟩) hK⟩ rfl rfl hl.1 rfl (lv_room (Nat.le_of_ble_eq_true rfl)) d_M_alter_2 ⟨Nat.le_of_ble_eq_true rfl, Nat.le_of_ble_eq_true rfl⟩) ?_
  refine lv_astore (lv' := [(4, .ref h0), (0, .ref x0), (1, .int bi), (2, .int i), (3, .int v)]) hx hb d_M_alter_5 hl (by decide) rfl (fun ls hl => ?_)
  refine lv_aload hx hb d_M_alter_7 (lv_at hl 0 rfl) ?_
  refine va_getN (ci := 0) (v := .int sa) (C := R_B) (T := T_B) (N := 9) hx hb ht in_B hown hK.1 hP 3 rfl rfl 7 (by decide) (va_Nw.use rfl (hK.2 _ n_fl_M_100)) (fun _ h9 => h9) rfl d_M_alter_9 ?_
  refine lv_iconst (v := 1) hx hb d_M_alter_12 (by decide) ?_
  refine lv_icmp_eq (tgt := 26) hx hb d_M_alter_13 (by decide) (fun c_13 => ?_) (fun c_13 => ?_)
  · refine lv_aload hx hb d_M_alter_26 (lv_at hl 0 rfl) ?_
    refine lv_iload_n hx hb d_M_alter_28 rfl (lv_at hl 3 rfl) ?_
    refine goRi (va_runVN (As := [.int i]) (rest := []) ⟨hx, hb, hml, hown, hts⟩ (c_B_hasByte l D cI cL cO h0 q1 q2 q3 q4 q5 o f ee t b ic bc sa gn i) ⟨va_cnB 1 hts (gB0 k_co_B_hasByte) rfl rfl rfl (hK.2 _ n_ml_M_115) (ht _ k_ini_B) (by decide +kernel) ⟨Nat.le_of_ble_eq_true rfl, Nat.le_of_ble_eq_true rfl⟩, ht _ k_im_B_hasByte, ht _ k_sel_B_hasByte⟩ ⟨PR.bl, va_recv hK.1 ((P_app.mp (P_app.mp (P_app.mp (P_app.mp hP).2).2).2).1) (ci := 0) (q0 := 0) rfl rfl, PR.pre ((P_app.mp (P_app.mp (P_app.mp (P_app.mp hP).2).2).2).1) hK⟩ rfl rfl hl.1 rfl (lv_room (Nat.le_of_ble_eq_true rfl)) d_M_alter_29 ⟨Nat.le_of_ble_eq_true rfl, Nat.le_of_ble_eq_true rfl⟩) ?_
    refine lv_if_eq (tgt := 46) hx hb d_M_alter_32 (by decide) (fun c_32 => ?_) (fun c_32 => ?_)
    · exact absurd c_32 v2
    · refine lv_iload_n hx hb d_M_alter_35 rfl (lv_at hl 4 rfl) ?_
      refine lv_if_lt (tgt := 46) hx hb d_M_alter_36 (by decide) (fun c_36 => ?_) (fun c_36 => ?_)
      · exact absurd c_36 v3
      · refine lv_iload_n hx hb d_M_alter_39 rfl (lv_at hl 4 rfl) ?_
        refine lv_sipush (v := 255) hx hb d_M_alter_40 (by decide) ?_
        refine lv_icmp_le (tgt := 56) hx hb d_M_alter_43 (by decide) (fun c_43 => ?_) (fun c_43 => ?_)
        · refine lv_aload hx hb d_M_alter_56 (lv_at hl 0 rfl) ?_
          refine lv_iload_n hx hb d_M_alter_58 rfl (lv_at hl 3 rfl) ?_
          refine goRi (va_runVN (As := [.int i]) (rest := []) ⟨hx, hb, hml, hown, hts⟩ (c_B_read l D cI cL cO h0 q1 q2 q3 q4 q5 o f ee t b ic bc sa gn i) ⟨va_cnB 1 hts (gB0 k_co_B_read) rfl rfl rfl (hK.2 _ n_ml_M_120) (ht _ k_ini_B) (by decide +kernel) ⟨Nat.le_of_ble_eq_true rfl, Nat.le_of_ble_eq_true rfl⟩, ht _ k_im_B_read, ht _ k_sel_B_read⟩ ⟨PR.bl, va_recv hK.1 ((P_app.mp (P_app.mp (P_app.mp (P_app.mp hP).2).2).2).1) (ci := 0) (q0 := 0) rfl rfl, PR.pre ((P_app.mp (P_app.mp (P_app.mp (P_app.mp hP).2).2).2).1) hK⟩ rfl rfl hl.1 rfl (lv_room (Nat.le_of_ble_eq_true rfl)) d_M_alter_59 ⟨Nat.le_of_ble_eq_true rfl, Nat.le_of_ble_eq_true rfl⟩) ?_
          refine lv_istore (lv' := [(5, .int (rdF b bc i)), (4, .ref h0), (0, .ref x0), (1, .int bi), (2, .int i), (3, .int v)]) hx hb d_M_alter_62 hl (by decide) rfl (fun ls hl => ?_)
          refine lv_aload hx hb d_M_alter_64 (lv_at hl 1 rfl) ?_
          refine lv_iload_n hx hb d_M_alter_66 rfl (lv_at hl 4 rfl) ?_
          refine lv_iload_n hx hb d_M_alter_67 rfl (lv_at hl 5 rfl) ?_
          have hP := P_sw2 hP
          have hD := D_sw2 hD
          have hP := P_sw1 hP
          have hD := D_sw1 hD
          have hP := P_sw hP
          have hD := D_sw hD
          refine goMv (va_runVN (As := [.int i, .int v]) (rest := []) ⟨hx, hb, hml, hown, hts⟩ (c_B_overwrite l D cI cL cO h0 q1 q2 q3 q4 q5 o f ee t b ic bc sa gn ((wX x0 lim a0 k0 u0 v0 t1 gen wrg rns als) ++ ((wH a0 d0 sz mo) ++ ((wR cO d0 cap rf) ++ fr))) i v H.size) ⟨va_cnB 2 hts (gB0 k_co_B_overwrite) rfl rfl rfl (hK.2 _ n_ml_M_126) (ht _ k_ini_B) (by decide +kernel) ⟨Nat.le_of_ble_eq_true rfl, Nat.le_of_ble_eq_true rfl⟩, ht _ k_im_B_overwrite, ht _ k_sel_B_overwrite⟩ ⟨PM.bl, va_recv hK.1 hP (ci := 0) (q0 := 0) rfl rfl, PM.pre hP hD hK⟩ rfl rfl hl.1 rfl (lv_room (Nat.le_of_ble_eq_true rfl)) d_M_alter_68 ⟨Nat.le_of_ble_eq_true rfl, Nat.le_of_ble_eq_true rfl⟩) hD hS hA (fun u H locs hw hP hD hS => ?_)
          obtain ⟨b_68, rfl⟩ : ∃ z, z = u := ⟨_, rfl⟩
          have e_68 : b_68 = ovF b bc i v := hw
          have hP : va_P D vwCl ((wB cI h0 q1 q2 q3 q4 q5 o f ee t b_68 ic bc sa gn) ++ ((wX x0 lim a0 k0 u0 v0 t1 gen wrg rns als) ++ ((wH a0 d0 sz mo) ++ ((wR cO d0 cap rf) ++ fr)))) H := hP
          have hD : va_D A ((wB cI h0 q1 q2 q3 q4 q5 o f ee t b_68 ic bc sa gn) ++ ((wX x0 lim a0 k0 u0 v0 t1 gen wrg rns als) ++ ((wH a0 d0 sz mo) ++ ((wR cO d0 cap rf) ++ fr)))) := hD
          have hP := P_sw hP
          have hD := D_sw hD
          have hP := P_sw1 hP
          have hD := D_sw1 hD
          have hP := P_sw2 hP
          have hD := D_sw2 hD
          have hP : va_P D vwCl ((wX x0 lim a0 k0 u0 v0 t1 gen wrg rns als) ++ ((wH a0 d0 sz mo) ++ ((wR cO d0 cap rf) ++ ((wB cI h0 q1 q2 q3 q4 q5 o f ee t b_68 ic bc sa gn) ++ fr)))) H := hP
          have hD : va_D A ((wX x0 lim a0 k0 u0 v0 t1 gen wrg rns als) ++ ((wH a0 d0 sz mo) ++ ((wR cO d0 cap rf) ++ ((wB cI h0 q1 q2 q3 q4 q5 o f ee t b_68 ic bc sa gn) ++ fr)))) := hD
          refine lv_iload hx hb d_M_alter_71 (lv_at hl 0 rfl) ?_
          rw [hQ]; exact retMi (w1 := fun u : Fn => ((wX x0 lim a0 k0 u0 v0 t1 gen wrg rns als) ++ ((wH a0 d0 sz mo) ++ ((wR cO d0 cap rf) ++ ((wB cI h0 q1 q2 q3 q4 q5 o f ee t u ic bc sa gn) ++ fr))))) b_68 hx hb hr hlocks hP hD hS ⟨rfl, e_68⟩ d_M_alter_73
        · exact absurd v4 c_43
  · exact absurd v1 c_13

set_option maxHeartbeats 1000000 in
set_option maxRecDepth 100000 in
theorem c_M_alterX (l : Launch) (D : va_G) (cI cL cO : ClassId) (N t0 mi : Nat) (hl0 : l.stackTraces = false) (x0 : Nat) (lim : Int32) (a0 : Nat) (k0 : Nat) (u0 : Nat) (v0 : Nat) (t1 : Nat) (gen : Int32) (wrg : Int32) (rns : Int32) (als : Int32) (d0 : Nat) (sz : Int32) (mo : Int32) (fr : va_W) (bi : Int32) (i : Int32) (v : Int32) (hbad : bi < 0 ∨ ¬ bi < sz) : CT l y_M_alter w_M_alter ({ frames := 7, cells := 1, slots := 6, locals := 103 }) D cI cL cO N t0 mi [.ref x0, .int bi, .int i, .int v] ((wX x0 lim a0 k0 u0 v0 t1 gen wrg rns als) ++ ((wH a0 d0 sz mo) ++ fr)) "java/lang/IndexOutOfBoundsException" (fun u : Unit => ((wX x0 lim a0 k0 u0 v0 t1 gen wrg rns als) ++ ((wH a0 d0 sz mo) ++ fr))) 1 6 := by
  refine ofT (cc := b_M_alter) (maxL := 6) (ret := (some .int)) (by decide) rfl (Nat.le_of_ble_eq_true rfl) ?_
  intro p e s m below meth c A ls H Q hQ hx hb hr hlocks hmt hts hown hml hP hK hD hS hA hl hE hN hAN
  have hl : lv_has ls 6 [(0, .ref x0), (1, .int bi), (2, .int i), (3, .int v)] := hl
  have hown : s.vm.findClass R_M = some m.cls := hown
  have ht : ∀ w ∈ BIG, w.before _ s = true := fun w h => hts w (List.mem_cons_of_mem _ h)
  refine lv_aload_n hx hb d_M_alter_0 rfl (lv_at hl 0 rfl) ?_
  refine lv_iload_n hx hb d_M_alter_1 rfl (lv_at hl 1 rfl) ?_
  rw [hQ]; exact passT (runT (As := [.int bi]) (rest := []) ⟨hx, hb, hml, hown, hts⟩ (c_M_findT l D cI cL cO N t0 mi hl0 x0 lim a0 k0 u0 v0 t1 gen wrg rns als d0 sz mo fr bi hbad H.size) (cwV 1 hts (gBIG (m4 k_ml_M_64 k_im_M_find k_sel_M_find k_ini_M) k_co_M_find) rfl rfl rfl (by decide +kernel) ⟨Nat.le_of_ble_eq_true rfl, Nat.le_of_ble_eq_true rfl⟩) ⟨PX.bl, va_recv hK.1 hP (ci := 3) (q0 := 0) rfl rfl, PX.pre hP hD hK hE hS hAN hN⟩ rfl rfl hl.1 rfl (lv_room (Nat.le_of_ble_eq_true rfl)) d_M_alter_2 ⟨Nat.le_of_ble_eq_true rfl, Nat.le_of_ble_eq_true rfl⟩) rfl rfl rfl hlocks hmt hS (A_in hD hS hA) (fun H1 h1 => by obtain ⟨u, h2, h3⟩ := h1; exact ⟨u, h2, h3.weaken (fun _ q _ h => A_in hD hS hA q.1 h)⟩)

set_option maxHeartbeats 1000000 in
set_option maxRecDepth 100000 in
theorem c_M_alterS (l : Launch) (D : va_G) (cI cL cO : ClassId) (N t0 mi : Nat) (hl0 : l.stackTraces = false) (x0 : Nat) (lim : Int32) (a0 : Nat) (k0 : Nat) (u0 : Nat) (v0 : Nat) (t1 : Nat) (gen : Int32) (wrg : Int32) (rns : Int32) (als : Int32) (d0 : Nat) (sz : Int32) (mo : Int32) (cap : Nat) (rf : Nat → Option Nat) (h0 : Nat) (q1 : Nat) (q2 : Nat) (q3 : Nat) (q4 : Nat) (q5 : Nat) (o : Fn) (f : Fn) (ee : Fn) (t : Fn) (b : Fn) (ic : Int32) (bc : Int32) (sa : Int32) (gn : Int32) (fr : va_W) (bi : Int32) (i : Int32) (v : Int32) (hi0 : ¬ bi < 0) (hi1 : bi < sz) (hi2 : vp_in bi cap) (hi3 : rf bi.toNatClampNeg = some h0) (v1 : ¬ sa = 1) : CT l y_M_alter w_M_alter ({ frames := 6, cells := 1, slots := 6, locals := 85 }) D cI cL cO N t0 mi [.ref x0, .int bi, .int i, .int v] ((wX x0 lim a0 k0 u0 v0 t1 gen wrg rns als) ++ ((wH a0 d0 sz mo) ++ ((wR cO d0 cap rf) ++ ((wB cI h0 q1 q2 q3 q4 q5 o f ee t b ic bc sa gn) ++ fr)))) "java/lang/IllegalStateException" (fun u : Unit => ((wX x0 lim a0 k0 u0 v0 t1 gen wrg rns als) ++ ((wH a0 d0 sz mo) ++ ((wR cO d0 cap rf) ++ ((wB cI h0 q1 q2 q3 q4 q5 o f ee t b ic bc sa gn) ++ fr))))) 1 6 := by
  refine ofT (cc := b_M_alter) (maxL := 6) (ret := (some .int)) (by decide) rfl (Nat.le_of_ble_eq_true rfl) ?_
  intro p e s m below meth c A ls H Q hQ hx hb hr hlocks hmt hts hown hml hP hK hD hS hA hl hE hN hAN
  have hl : lv_has ls 6 [(0, .ref x0), (1, .int bi), (2, .int i), (3, .int v)] := hl
  have hown : s.vm.findClass R_M = some m.cls := hown
  have ht : ∀ w ∈ BIG, w.before _ s = true := fun w h => hts w (List.mem_cons_of_mem _ h)
  refine lv_aload_n hx hb d_M_alter_0 rfl (lv_at hl 0 rfl) ?_
  refine lv_iload_n hx hb d_M_alter_1 rfl (lv_at hl 1 rfl) ?_
  refine goRv (va_runV (As := [.int bi]) (rest := []) ⟨hx, hb, hml, hown, hts⟩ (c_M_find l D cI cL cO x0 lim a0 k0 u0 v0 t1 gen wrg rns als d0 sz mo cap rf h0 q1 q2 q3 q4 q5 o f ee t b ic bc sa gn bi hi0 hi1 hi2 hi3) (cwV 1 hts (gBIG (m4 k_ml_M_64 k_im_M_find k_sel_M_find k_ini_M) k_co_M_find) rfl rfl rfl (by decide +kernel) ⟨Nat.le_of_ble_eq_true rfl, Nat.le_of_ble_eq_true rfl⟩) ⟨PR.bl, va_recv hK.1 (P_app.mpr ⟨(P_app.mp hP).1, (P_app.mpr ⟨(P_app.mp (P_app.mp hP).2).1, (P_app.mpr ⟨(P_app.mp (P_app.mp (P_app.mp hP).2).2).1, (P_app.mp (P_app.mp (P_app.mp (P_app.mp hP).2).2).2).1⟩)⟩)⟩) (ci := 3) (q0 := 0) rfl rfl, PR.pre (P_app.mpr ⟨(P_app.mp hP).1, (P_app.mpr ⟨(P_app.mp (P_app.mp hP).2).1, (P_app.mpr ⟨(P_app.mp (P_app.mp (P_app.mp hP).2).2).1, (P_app.mp (P_app.mp (P_app.mp (P_app.mp hP).2).2).2).1⟩)⟩)⟩) hK⟩ rfl rfl hl.1 rfl (lv_room (Nat.le_of_ble_eq_true rfl)) d_M_alter_2 ⟨Nat.le_of_ble_eq_true rfl, Nat.le_of_ble_eq_true rfl⟩) ?_
  refine lv_astore (lv' := [(4, .ref h0), (0, .ref x0), (1, .int bi), (2, .int i), (3, .int v)]) hx hb d_M_alter_5 hl (by decide) rfl (fun ls hl => ?_)
  refine lv_aload hx hb d_M_alter_7 (lv_at hl 0 rfl) ?_
  refine va_getN (ci := 0) (v := .int sa) (C := R_B) (T := T_B) (N := 9) hx hb ht in_B hown hK.1 hP 3 rfl rfl 7 (by decide) (va_Nw.use rfl (hK.2 _ n_fl_M_100)) (fun _ h9 => h9) rfl d_M_alter_9 ?_
  refine lv_iconst (v := 1) hx hb d_M_alter_12 (by decide) ?_
  refine lv_icmp_eq (tgt := 26) hx hb d_M_alter_13 (by decide) (fun c_13 => ?_) (fun c_13 => ?_)
  · exact absurd c_13 v1
  · rw [hQ]; exact w_throw (X := "java/lang/IllegalStateException") (tx := "the block does not wait") (ic := 114) (ik := 110) (is := 124) (N := N) hx hb hl0 hlocks hown th3 kx4_S ht hE.1 (by decide) kx1_S kx2_S kx3_S hmt (hl.1.trans hml.symm) hS hAN hN d_M_alter_16 d_M_alter_19 d_M_alter_20 d_M_alter_22 d_M_alter_25 (Nat.le_of_ble_eq_true rfl) (Nat.le_of_ble_eq_true rfl) (Nat.le_of_ble_eq_true rfl) (Nat.le_of_ble_eq_true rfl) (fun H1 up => ⟨(), P_up hP up, hD⟩)

set_option maxHeartbeats 1000000 in
set_option maxRecDepth 100000 in
theorem c_M_alterA (l : Launch) (D : va_G) (cI cL cO : ClassId) (N t0 mi : Nat) (hl0 : l.stackTraces = false) (x0 : Nat) (lim : Int32) (a0 : Nat) (k0 : Nat) (u0 : Nat) (v0 : Nat) (t1 : Nat) (gen : Int32) (wrg : Int32) (rns : Int32) (als : Int32) (d0 : Nat) (sz : Int32) (mo : Int32) (cap : Nat) (rf : Nat → Option Nat) (h0 : Nat) (q1 : Nat) (q2 : Nat) (q3 : Nat) (q4 : Nat) (q5 : Nat) (o : Fn) (f : Fn) (ee : Fn) (t : Fn) (b : Fn) (ic : Int32) (bc : Int32) (sa : Int32) (gn : Int32) (fr : va_W) (bi : Int32) (i : Int32) (v : Int32) (hi0 : ¬ bi < 0) (hi1 : bi < sz) (hi2 : vp_in bi cap) (hi3 : rf bi.toNatClampNeg = some h0) (v1 : sa = 1) (v2 : hasF bc i = 0 ∨ v < 0 ∨ ¬ v ≤ 255) : CT l y_M_alter w_M_alter ({ frames := 6, cells := 1, slots := 6, locals := 85 }) D cI cL cO N t0 mi [.ref x0, .int bi, .int i, .int v] ((wX x0 lim a0 k0 u0 v0 t1 gen wrg rns als) ++ ((wH a0 d0 sz mo) ++ ((wR cO d0 cap rf) ++ ((wB cI h0 q1 q2 q3 q4 q5 o f ee t b ic bc sa gn) ++ fr)))) "java/lang/IllegalArgumentException" (fun u : Unit => ((wX x0 lim a0 k0 u0 v0 t1 gen wrg rns als) ++ ((wH a0 d0 sz mo) ++ ((wR cO d0 cap rf) ++ ((wB cI h0 q1 q2 q3 q4 q5 o f ee t b ic bc sa gn) ++ fr))))) 1 6 := by
  refine ofT (cc := b_M_alter) (maxL := 6) (ret := (some .int)) (by decide) rfl (Nat.le_of_ble_eq_true rfl) ?_
  intro p e s m below meth c A ls H Q hQ hx hb hr hlocks hmt hts hown hml hP hK hD hS hA hl hE hN hAN
  have hl : lv_has ls 6 [(0, .ref x0), (1, .int bi), (2, .int i), (3, .int v)] := hl
  have hown : s.vm.findClass R_M = some m.cls := hown
  have ht : ∀ w ∈ BIG, w.before _ s = true := fun w h => hts w (List.mem_cons_of_mem _ h)
  refine lv_aload_n hx hb d_M_alter_0 rfl (lv_at hl 0 rfl) ?_
  refine lv_iload_n hx hb d_M_alter_1 rfl (lv_at hl 1 rfl) ?_
  refine goRv (va_runV (As := [.int bi]) (rest := []) ⟨hx, hb, hml, hown, hts⟩ (c_M_find l D cI cL cO x0 lim a0 k0 u0 v0 t1 gen wrg rns als d0 sz mo cap rf h0 q1 q2 q3 q4 q5 o f ee t b ic bc sa gn bi hi0 hi1 hi2 hi3) (cwV 1 hts (gBIG (m4 k_ml_M_64 k_im_M_find k_sel_M_find k_ini_M) k_co_M_find) rfl rfl rfl (by decide +kernel) ⟨Nat.le_of_ble_eq_true rfl, Nat.le_of_ble_eq_true rfl⟩) ⟨PR.bl, va_recv hK.1 (P_app.mpr ⟨(P_app.mp hP).1, (P_app.mpr ⟨(P_app.mp (P_app.mp hP).2).1, (P_app.mpr ⟨(P_app.mp (P_app.mp (P_app.mp hP).2).2).1, (P_app.mp (P_app.mp (P_app.mp (P_app.mp hP).2).2).2).1⟩)⟩)⟩) (ci := 3) (q0 := 0) rfl rfl, PR.pre (P_app.mpr ⟨(P_app.mp hP).1, (P_app.mpr ⟨(P_app.mp (P_app.mp hP).2).1, (P_app.mpr ⟨(P_app.mp (P_app.mp (P_app.mp hP).2).2).1, (P_app.mp (P_app.mp (P_app.mp (P_app.mp hP).2).2).2).1⟩)⟩)⟩) hK⟩ rfl rfl hl.1 rfl (lv_room (Nat.le_of_ble_eq_true rfl)) d_M_alter_2 ⟨Nat.le_of_ble_eq_true rfl, Nat.le_of_ble_eq_true rfl⟩) ?_
  refine lv_astore (lv' := [(4, .ref h0), (0, .ref x0), (1, .int bi), (2, .int i), (3, .int v)]) hx hb d_M_alter_5 hl (by decide) rfl (fun ls hl => ?_)
  refine lv_aload hx hb d_M_alter_7 (lv_at hl 0 rfl) ?_
  refine va_getN (ci := 0) (v := .int sa) (C := R_B) (T := T_B) (N := 9) hx hb ht in_B hown hK.1 hP 3 rfl rfl 7 (by decide) (va_Nw.use rfl (hK.2 _ n_fl_M_100)) (fun _ h9 => h9) rfl d_M_alter_9 ?_
  refine lv_iconst (v := 1) hx hb d_M_alter_12 (by decide) ?_
  refine lv_icmp_eq (tgt := 26) hx hb d_M_alter_13 (by decide) (fun c_13 => ?_) (fun c_13 => ?_)
  · refine lv_aload hx hb d_M_alter_26 (lv_at hl 0 rfl) ?_
    refine lv_iload_n hx hb d_M_alter_28 rfl (lv_at hl 3 rfl) ?_
    refine goRi (va_runVN (As := [.int i]) (rest := []) ⟨hx, hb, hml, hown, hts⟩ (c_B_hasByte l D cI cL cO h0 q1 q2 q3 q4 q5 o f ee t b ic bc sa gn i) ⟨va_cnB 1 hts (gB0 k_co_B_hasByte) rfl rfl rfl (hK.2 _ n_ml_M_115) (ht _ k_ini_B) (by decide +kernel) ⟨Nat.le_of_ble_eq_true rfl, Nat.le_of_ble_eq_true rfl⟩, ht _ k_im_B_hasByte, ht _ k_sel_B_hasByte⟩ ⟨PR.bl, va_recv hK.1 ((P_app.mp (P_app.mp (P_app.mp (P_app.mp hP).2).2).2).1) (ci := 0) (q0 := 0) rfl rfl, PR.pre ((P_app.mp (P_app.mp (P_app.mp (P_app.mp hP).2).2).2).1) hK⟩ rfl rfl hl.1 rfl (lv_room (Nat.le_of_ble_eq_true rfl)) d_M_alter_29 ⟨Nat.le_of_ble_eq_true rfl, Nat.le_of_ble_eq_true rfl⟩) ?_
    refine lv_if_eq (tgt := 46) hx hb d_M_alter_32 (by decide) (fun c_32 => ?_) (fun c_32 => ?_)
    · rw [hQ]; exact w_throw (X := "java/lang/IllegalArgumentException") (tx := "no such byte") (ic := 80) (ik := 76) (is := 118) (N := N) hx hb hl0 hlocks hown th2 kx4_A ht hE.1 (by decide) kx1_A kx2_A kx3_A hmt (hl.1.trans hml.symm) hS hAN hN d_M_alter_46 d_M_alter_49 d_M_alter_50 d_M_alter_52 d_M_alter_55 (Nat.le_of_ble_eq_true rfl) (Nat.le_of_ble_eq_true rfl) (Nat.le_of_ble_eq_true rfl) (Nat.le_of_ble_eq_true rfl) (fun H1 up => ⟨(), P_up hP up, hD⟩)
    · refine lv_iload_n hx hb d_M_alter_35 rfl (lv_at hl 4 rfl) ?_
      refine lv_if_lt (tgt := 46) hx hb d_M_alter_36 (by decide) (fun c_36 => ?_) (fun c_36 => ?_)
      · rw [hQ]; exact w_throw (X := "java/lang/IllegalArgumentException") (tx := "no such byte") (ic := 80) (ik := 76) (is := 118) (N := N) hx hb hl0 hlocks hown th2 kx4_A ht hE.1 (by decide) kx1_A kx2_A kx3_A hmt (hl.1.trans hml.symm) hS hAN hN d_M_alter_46 d_M_alter_49 d_M_alter_50 d_M_alter_52 d_M_alter_55 (Nat.le_of_ble_eq_true rfl) (Nat.le_of_ble_eq_true rfl) (Nat.le_of_ble_eq_true rfl) (Nat.le_of_ble_eq_true rfl) (fun H1 up => ⟨(), P_up hP up, hD⟩)
      · refine lv_iload_n hx hb d_M_alter_39 rfl (lv_at hl 4 rfl) ?_
        refine lv_sipush (v := 255) hx hb d_M_alter_40 (by decide) ?_
        refine lv_icmp_le (tgt := 56) hx hb d_M_alter_43 (by decide) (fun c_43 => ?_) (fun c_43 => ?_)
        · exact (v2.elim c_32 (fun h => h.elim c_36 (fun h => h c_43))).elim
        · rw [hQ]; exact w_throw (X := "java/lang/IllegalArgumentException") (tx := "no such byte") (ic := 80) (ik := 76) (is := 118) (N := N) hx hb hl0 hlocks hown th2 kx4_A ht hE.1 (by decide) kx1_A kx2_A kx3_A hmt (hl.1.trans hml.symm) hS hAN hN d_M_alter_46 d_M_alter_49 d_M_alter_50 d_M_alter_52 d_M_alter_55 (Nat.le_of_ble_eq_true rfl) (Nat.le_of_ble_eq_true rfl) (Nat.le_of_ble_eq_true rfl) (Nat.le_of_ble_eq_true rfl) (fun H1 up => ⟨(), P_up hP up, hD⟩)
  · exact absurd v1 c_13

abbrev w_M_check : List Cond := .code y_M_check b_M_check 3 (some .int) :: BIG
set_option maxHeartbeats 1000000 in
set_option maxRecDepth 100000 in
theorem c_M_check (l : Launch) (D : va_G) (cI cL cO : ClassId) (x0 : Nat) (lim : Int32) (a0 : Nat) (k0 : Nat) (u0 : Nat) (v0 : Nat) (t1 : Nat) (gen : Int32) (wrg : Int32) (rns : Int32) (als : Int32) (d0 : Nat) (sz : Int32) (mo : Int32) (cap : Nat) (rf : Nat → Option Nat) (h0 : Nat) (q1 : Nat) (q2 : Nat) (q3 : Nat) (q4 : Nat) (q5 : Nat) (o : Fn) (f : Fn) (ee : Fn) (t : Fn) (b : Fn) (ic : Int32) (bc : Int32) (sa : Int32) (gn : Int32) (k1 : Nat) (dd : Fn) (fr : va_W) (bi : Int32) (hi0 : ¬ bi < 0) (hi1 : bi < sz) (hi2 : vp_in bi cap) (hi3 : rf bi.toNatClampNeg = some h0) (v1 : ¬ sa = 0) : CMi l y_M_check w_M_check ({ frames := 5, cells := 0, slots := 0, locals := 112 }) D cI cL cO [.ref x0, .int bi] ((wX x0 lim a0 k0 u0 v0 t1 gen wrg rns als) ++ ((wH a0 d0 sz mo) ++ ((wR cO d0 cap rf) ++ ((wB cI h0 q1 q2 q3 q4 q5 o f ee t b ic bc sa gn) ++ ((wK k0 k1) ++ ((wI3 cI k1 dd) ++ fr)))))) (fun (r : Int32) (u : Fn) => r = vdF b bc ∧ u = (vcF b bc).2) (fun u : Fn => ((wX x0 lim a0 k0 u0 v0 t1 gen wrg rns als) ++ ((wH a0 d0 sz mo) ++ ((wR cO d0 cap rf) ++ ((wB cI h0 q1 q2 q3 q4 q5 o f ee t b ic bc sa gn) ++ ((wK k0 k1) ++ ((wI3 cI k1 u) ++ fr))))))) 0 0 := by
  refine ofMi (cc := b_M_check) (maxL := 3) (ret := (some .int)) (by decide) rfl (Nat.le_of_ble_eq_true rfl) ?_
  intro p e s m below meth c A ls H Q hQ hx hb hr hlocks hin hts hown hml hP hK hD hS hA hl
  have hl : lv_has ls 3 [(0, .ref x0), (1, .int bi)] := hl
  have hown : s.vm.findClass R_M = some m.cls := hown
  have ht : ∀ w ∈ BIG, w.before _ s = true := fun w h => hts w (List.mem_cons_of_mem _ h)
  refine lv_aload_n hx hb d_M_check_0 rfl (lv_at hl 0 rfl) ?_
  refine lv_iload_n hx hb d_M_check_1 rfl (lv_at hl 1 rfl) ?_
  refine goRv (va_runV (As := [.int bi]) (rest := []) ⟨hx, hb, hml, hown, hts⟩ (c_M_find l D cI cL cO x0 lim a0 k0 u0 v0 t1 gen wrg rns als d0 sz mo cap rf h0 q1 q2 q3 q4 q5 o f ee t b ic bc sa gn bi hi0 hi1 hi2 hi3) (cwV 1 hts (gBIG (m4 k_ml_M_64 k_im_M_find k_sel_M_find k_ini_M) k_co_M_find) rfl rfl rfl (by decide +kernel) ⟨Nat.le_of_ble_eq_true rfl, Nat.le_of_ble_eq_true rfl⟩) ⟨PR.bl, va_recv hK.1 (P_app.mpr ⟨(P_app.mp hP).1, (P_app.mpr ⟨(P_app.mp (P_app.mp hP).2).1, (P_app.mpr ⟨(P_app.mp (P_app.mp (P_app.mp hP).2).2).1, (P_app.mp (P_app.mp (P_app.mp (P_app.mp hP).2).2).2).1⟩)⟩)⟩) (ci := 3) (q0 := 0) rfl rfl, PR.pre (P_app.mpr ⟨(P_app.mp hP).1, (P_app.mpr ⟨(P_app.mp (P_app.mp hP).2).1, (P_app.mpr ⟨(P_app.mp (P_app.mp (P_app.mp hP).2).2).1, (P_app.mp (P_app.mp (P_app.mp (P_app.mp hP).2).2).2).1⟩)⟩)⟩) hK⟩ rfl rfl hl.1 rfl (lv_room (Nat.le_of_ble_eq_true rfl)) d_M_check_2 ⟨Nat.le_of_ble_eq_true rfl, Nat.le_of_ble_eq_true rfl⟩) ?_
  refine lv_astore_n (lv' := [(2, .ref h0), (0, .ref x0), (1, .int bi)]) hx hb d_M_check_5 rfl hl (by decide) rfl (fun ls hl => ?_)
  refine lv_aload_n hx hb d_M_check_6 rfl (lv_at hl 0 rfl) ?_
  refine va_getN (ci := 0) (v := .int sa) (C := R_B) (T := T_B) (N := 9) hx hb ht in_B hown hK.1 hP 3 rfl rfl 7 (by decide) (va_Nw.use rfl (hK.2 _ n_fl_M_100)) (fun _ h9 => h9) rfl d_M_check_7 ?_
  refine lv_if_ne (tgt := 23) hx hb d_M_check_10 (by decide) (fun c_10 => ?_) (fun c_10 => ?_)
  · refine lv_aload_n hx hb d_M_check_23 rfl (lv_at hl 1 rfl) ?_
    refine va_get (ci := 3) (v := .ref k0) (C := R_M) (T := T_M) (N := 10) hx hb ht in_M hown hK.1 hP 0 rfl rfl 2 (by decide) (ht _ k_fl_M_19) (fun _ h9 => h9) rfl d_M_check_24 ?_
    refine lv_aload_n hx hb d_M_check_27 rfl (lv_at hl 0 rfl) ?_
    have hP := P_sw3 hP
    have hD := D_sw3 hD
    have hP := P_sw2 hP
    have hD := D_sw2 hD
    have hP := P_sw1 hP
    have hD := D_sw1 hD
    have hP := P_sw hP
    have hD := D_sw hD
    have hP := P_sw4 hP
    have hD := D_sw4 hD
    have hP := P_sw3 hP
    have hD := D_sw3 hD
    have hP := P_sw2 hP
    have hD := D_sw2 hD
    have hP := P_sw1 hP
    have hD := D_sw1 hD
    have hP := P_sw4 hP
    have hD := D_sw4 hD
    have hP := P_sw3 hP
    have hD := D_sw3 hD
    have hP := P_sw2 hP
    have hD := D_sw2 hD
    refine goMi (va_runVN (As := [.ref h0]) (rest := []) ⟨hx, hb, hml, hown, hts⟩ (c_K_verdictOn l D cI cL cO k0 k1 dd h0 q1 q2 q3 q4 q5 o f ee t b ic bc sa gn ((wX x0 lim a0 k0 u0 v0 t1 gen wrg rns als) ++ ((wH a0 d0 sz mo) ++ ((wR cO d0 cap rf) ++ fr))) H.size) ⟨va_cnB 1 hts (gB0 k_co_K_verdictOn) rfl rfl rfl (hK.2 _ n_ml_M_130) (ht _ k_ini_K) (by decide +kernel) ⟨Nat.le_of_ble_eq_true rfl, Nat.le_of_ble_eq_true rfl⟩, ht _ k_im_K_verdictOn, ht _ k_sel_K_verdictOn⟩ ⟨PM.bl, va_recv hK.1 hP (ci := 1) (q0 := 0) rfl rfl, PM.pre hP hD hK⟩ rfl rfl hl.1 rfl (lv_room (Nat.le_of_ble_eq_true rfl)) d_M_check_28 ⟨Nat.le_of_ble_eq_true rfl, Nat.le_of_ble_eq_true rfl⟩) hD hS hA (fun r_28 u H locs hw hP hD hS => ?_)
    obtain ⟨dd_28, rfl⟩ : ∃ z, z = u := ⟨_, rfl⟩
    have e_28 : r_28 = vdF b bc ∧ dd_28 = (vcF b bc).2 := hw
    have hP : va_P D vwCl ((wK k0 k1) ++ ((wI3 cI k1 dd_28) ++ ((wB cI h0 q1 q2 q3 q4 q5 o f ee t b ic bc sa gn) ++ ((wX x0 lim a0 k0 u0 v0 t1 gen wrg rns als) ++ ((wH a0 d0 sz mo) ++ ((wR cO d0 cap rf) ++ fr)))))) H := hP
    have hD : va_D A ((wK k0 k1) ++ ((wI3 cI k1 dd_28) ++ ((wB cI h0 q1 q2 q3 q4 q5 o f ee t b ic bc sa gn) ++ ((wX x0 lim a0 k0 u0 v0 t1 gen wrg rns als) ++ ((wH a0 d0 sz mo) ++ ((wR cO d0 cap rf) ++ fr)))))) := hD
    have hP := P_sw1 hP
    have hD := D_sw1 hD
    have hP := P_sw2 hP
    have hD := D_sw2 hD
    have hP := P_sw3 hP
    have hD := D_sw3 hD
    have hP := P_sw4 hP
    have hD := D_sw4 hD
    have hP := P_sw hP
    have hD := D_sw hD
    have hP := P_sw1 hP
    have hD := D_sw1 hD
    have hP := P_sw2 hP
    have hD := D_sw2 hD
    have hP := P_sw3 hP
    have hD := D_sw3 hD
    have hP := P_sw hP
    have hD := D_sw hD
    have hP := P_sw1 hP
    have hD := D_sw1 hD
    have hP := P_sw2 hP
    have hD := D_sw2 hD
    have hP : va_P D vwCl ((wX x0 lim a0 k0 u0 v0 t1 gen wrg rns als) ++ ((wH a0 d0 sz mo) ++ ((wR cO d0 cap rf) ++ ((wB cI h0 q1 q2 q3 q4 q5 o f ee t b ic bc sa gn) ++ ((wK k0 k1) ++ ((wI3 cI k1 dd_28) ++ fr)))))) H := hP
    have hD : va_D A ((wX x0 lim a0 k0 u0 v0 t1 gen wrg rns als) ++ ((wH a0 d0 sz mo) ++ ((wR cO d0 cap rf) ++ ((wB cI h0 q1 q2 q3 q4 q5 o f ee t b ic bc sa gn) ++ ((wK k0 k1) ++ ((wI3 cI k1 dd_28) ++ fr)))))) := hD
    rw [hQ]; exact retMi (w1 := fun u : Fn => ((wX x0 lim a0 k0 u0 v0 t1 gen wrg rns als) ++ ((wH a0 d0 sz mo) ++ ((wR cO d0 cap rf) ++ ((wB cI h0 q1 q2 q3 q4 q5 o f ee t b ic bc sa gn) ++ ((wK k0 k1) ++ ((wI3 cI k1 u) ++ fr))))))) dd_28 hx hb hr hlocks hP hD hS e_28 d_M_check_31
  · exact absurd c_10 v1

set_option maxHeartbeats 1000000 in
set_option maxRecDepth 100000 in
theorem c_M_checkX (l : Launch) (D : va_G) (cI cL cO : ClassId) (N t0 mi : Nat) (hl0 : l.stackTraces = false) (x0 : Nat) (lim : Int32) (a0 : Nat) (k0 : Nat) (u0 : Nat) (v0 : Nat) (t1 : Nat) (gen : Int32) (wrg : Int32) (rns : Int32) (als : Int32) (d0 : Nat) (sz : Int32) (mo : Int32) (fr : va_W) (bi : Int32) (hbad : bi < 0 ∨ ¬ bi < sz) : CT l y_M_check w_M_check ({ frames := 7, cells := 1, slots := 6, locals := 103 }) D cI cL cO N t0 mi [.ref x0, .int bi] ((wX x0 lim a0 k0 u0 v0 t1 gen wrg rns als) ++ ((wH a0 d0 sz mo) ++ fr)) "java/lang/IndexOutOfBoundsException" (fun u : Unit => ((wX x0 lim a0 k0 u0 v0 t1 gen wrg rns als) ++ ((wH a0 d0 sz mo) ++ fr))) 1 6 := by
  refine ofT (cc := b_M_check) (maxL := 3) (ret := (some .int)) (by decide) rfl (Nat.le_of_ble_eq_true rfl) ?_
  intro p e s m below meth c A ls H Q hQ hx hb hr hlocks hmt hts hown hml hP hK hD hS hA hl hE hN hAN
  have hl : lv_has ls 3 [(0, .ref x0), (1, .int bi)] := hl
  have hown : s.vm.findClass R_M = some m.cls := hown
  have ht : ∀ w ∈ BIG, w.before _ s = true := fun w h => hts w (List.mem_cons_of_mem _ h)
  refine lv_aload_n hx hb d_M_check_0 rfl (lv_at hl 0 rfl) ?_
  refine lv_iload_n hx hb d_M_check_1 rfl (lv_at hl 1 rfl) ?_
  rw [hQ]; exact passT (runT (As := [.int bi]) (rest := []) ⟨hx, hb, hml, hown, hts⟩ (c_M_findT l D cI cL cO N t0 mi hl0 x0 lim a0 k0 u0 v0 t1 gen wrg rns als d0 sz mo fr bi hbad H.size) (cwV 1 hts (gBIG (m4 k_ml_M_64 k_im_M_find k_sel_M_find k_ini_M) k_co_M_find) rfl rfl rfl (by decide +kernel) ⟨Nat.le_of_ble_eq_true rfl, Nat.le_of_ble_eq_true rfl⟩) ⟨PX.bl, va_recv hK.1 hP (ci := 3) (q0 := 0) rfl rfl, PX.pre hP hD hK hE hS hAN hN⟩ rfl rfl hl.1 rfl (lv_room (Nat.le_of_ble_eq_true rfl)) d_M_check_2 ⟨Nat.le_of_ble_eq_true rfl, Nat.le_of_ble_eq_true rfl⟩) rfl rfl rfl hlocks hmt hS (A_in hD hS hA) (fun H1 h1 => by obtain ⟨u, h2, h3⟩ := h1; exact ⟨u, h2, h3.weaken (fun _ q _ h => A_in hD hS hA q.1 h)⟩)

set_option maxHeartbeats 1000000 in
set_option maxRecDepth 100000 in
theorem c_M_checkS (l : Launch) (D : va_G) (cI cL cO : ClassId) (N t0 mi : Nat) (hl0 : l.stackTraces = false) (x0 : Nat) (lim : Int32) (a0 : Nat) (k0 : Nat) (u0 : Nat) (v0 : Nat) (t1 : Nat) (gen : Int32) (wrg : Int32) (rns : Int32) (als : Int32) (d0 : Nat) (sz : Int32) (mo : Int32) (cap : Nat) (rf : Nat → Option Nat) (h0 : Nat) (q1 : Nat) (q2 : Nat) (q3 : Nat) (q4 : Nat) (q5 : Nat) (o : Fn) (f : Fn) (ee : Fn) (t : Fn) (b : Fn) (ic : Int32) (bc : Int32) (sa : Int32) (gn : Int32) (fr : va_W) (bi : Int32) (hi0 : ¬ bi < 0) (hi1 : bi < sz) (hi2 : vp_in bi cap) (hi3 : rf bi.toNatClampNeg = some h0) (v1 : sa = 0) : CT l y_M_check w_M_check ({ frames := 6, cells := 1, slots := 6, locals := 85 }) D cI cL cO N t0 mi [.ref x0, .int bi] ((wX x0 lim a0 k0 u0 v0 t1 gen wrg rns als) ++ ((wH a0 d0 sz mo) ++ ((wR cO d0 cap rf) ++ ((wB cI h0 q1 q2 q3 q4 q5 o f ee t b ic bc sa gn) ++ fr)))) "java/lang/IllegalStateException" (fun u : Unit => ((wX x0 lim a0 k0 u0 v0 t1 gen wrg rns als) ++ ((wH a0 d0 sz mo) ++ ((wR cO d0 cap rf) ++ ((wB cI h0 q1 q2 q3 q4 q5 o f ee t b ic bc sa gn) ++ fr))))) 1 6 := by
  refine ofT (cc := b_M_check) (maxL := 3) (ret := (some .int)) (by decide) rfl (Nat.le_of_ble_eq_true rfl) ?_
  intro p e s m below meth c A ls H Q hQ hx hb hr hlocks hmt hts hown hml hP hK hD hS hA hl hE hN hAN
  have hl : lv_has ls 3 [(0, .ref x0), (1, .int bi)] := hl
  have hown : s.vm.findClass R_M = some m.cls := hown
  have ht : ∀ w ∈ BIG, w.before _ s = true := fun w h => hts w (List.mem_cons_of_mem _ h)
  refine lv_aload_n hx hb d_M_check_0 rfl (lv_at hl 0 rfl) ?_
  refine lv_iload_n hx hb d_M_check_1 rfl (lv_at hl 1 rfl) ?_
  refine goRv (va_runV (As := [.int bi]) (rest := []) ⟨hx, hb, hml, hown, hts⟩ (c_M_find l D cI cL cO x0 lim a0 k0 u0 v0 t1 gen wrg rns als d0 sz mo cap rf h0 q1 q2 q3 q4 q5 o f ee t b ic bc sa gn bi hi0 hi1 hi2 hi3) (cwV 1 hts (gBIG (m4 k_ml_M_64 k_im_M_find k_sel_M_find k_ini_M) k_co_M_find) rfl rfl rfl (by decide +kernel) ⟨Nat.le_of_ble_eq_true rfl, Nat.le_of_ble_eq_true rfl⟩) ⟨PR.bl, va_recv hK.1 (P_app.mpr ⟨(P_app.mp hP).1, (P_app.mpr ⟨(P_app.mp (P_app.mp hP).2).1, (P_app.mpr ⟨(P_app.mp (P_app.mp (P_app.mp hP).2).2).1, (P_app.mp (P_app.mp (P_app.mp (P_app.mp hP).2).2).2).1⟩)⟩)⟩) (ci := 3) (q0 := 0) rfl rfl, PR.pre (P_app.mpr ⟨(P_app.mp hP).1, (P_app.mpr ⟨(P_app.mp (P_app.mp hP).2).1, (P_app.mpr ⟨(P_app.mp (P_app.mp (P_app.mp hP).2).2).1, (P_app.mp (P_app.mp (P_app.mp (P_app.mp hP).2).2).2).1⟩)⟩)⟩) hK⟩ rfl rfl hl.1 rfl (lv_room (Nat.le_of_ble_eq_true rfl)) d_M_check_2 ⟨Nat.le_of_ble_eq_true rfl, Nat.le_of_ble_eq_true rfl⟩) ?_
  refine lv_astore_n (lv' := [(2, .ref h0), (0, .ref x0), (1, .int bi)]) hx hb d_M_check_5 rfl hl (by decide) rfl (fun ls hl => ?_)
  refine lv_aload_n hx hb d_M_check_6 rfl (lv_at hl 0 rfl) ?_
  refine va_getN (ci := 0) (v := .int sa) (C := R_B) (T := T_B) (N := 9) hx hb ht in_B hown hK.1 hP 3 rfl rfl 7 (by decide) (va_Nw.use rfl (hK.2 _ n_fl_M_100)) (fun _ h9 => h9) rfl d_M_check_7 ?_
  refine lv_if_ne (tgt := 23) hx hb d_M_check_10 (by decide) (fun c_10 => ?_) (fun c_10 => ?_)
  · exact absurd v1 c_10
  · rw [hQ]; exact w_throw (X := "java/lang/IllegalStateException") (tx := "the block is rows") (ic := 114) (ik := 110) (is := 112) (N := N) hx hb hl0 hlocks hown th3 kx4_S ht hE.1 (by decide) kx1_S kx2_S kx3_S hmt (hl.1.trans hml.symm) hS hAN hN d_M_check_13 d_M_check_16 d_M_check_17 d_M_check_19 d_M_check_22 (Nat.le_of_ble_eq_true rfl) (Nat.le_of_ble_eq_true rfl) (Nat.le_of_ble_eq_true rfl) (Nat.le_of_ble_eq_true rfl) (fun H1 up => ⟨(), P_up hP up, hD⟩)

def whM (w sa gn ic bc : Int32) : Int32 := if w = 0 then sa else if w = 1 then gn else if w = 2 then ic else bc
abbrev w_M_what : List Cond := .code y_M_what b_M_what 4 (some .int) :: BIG
set_option maxHeartbeats 1000000 in
set_option maxRecDepth 100000 in
theorem c_M_what (l : Launch) (D : va_G) (cI cL cO : ClassId) (x0 : Nat) (lim : Int32) (a0 : Nat) (k0 : Nat) (u0 : Nat) (v0 : Nat) (t1 : Nat) (gen : Int32) (wrg : Int32) (rns : Int32) (als : Int32) (d0 : Nat) (sz : Int32) (mo : Int32) (cap : Nat) (rf : Nat → Option Nat) (h0 : Nat) (q1 : Nat) (q2 : Nat) (q3 : Nat) (q4 : Nat) (q5 : Nat) (o : Fn) (f : Fn) (ee : Fn) (t : Fn) (b : Fn) (ic : Int32) (bc : Int32) (sa : Int32) (gn : Int32) (bi : Int32) (w : Int32) (hi0 : ¬ bi < 0) (hi1 : bi < sz) (hi2 : vp_in bi cap) (hi3 : rf bi.toNatClampNeg = some h0) (v1 : w = 0 ∨ w = 1 ∨ w = 2 ∨ w = 3) : CRi l y_M_what w_M_what ({ frames := 4, cells := 0, slots := 0, locals := 85 }) D cI cL cO [.ref x0, .int bi, .int w] ((wX x0 lim a0 k0 u0 v0 t1 gen wrg rns als) ++ ((wH a0 d0 sz mo) ++ ((wR cO d0 cap rf) ++ (wB cI h0 q1 q2 q3 q4 q5 o f ee t b ic bc sa gn)))) (whM w sa gn ic bc) := by
  refine ofR (cc := b_M_what) (maxL := 4) (ret := (some .int)) (by decide) rfl (Nat.le_of_ble_eq_true rfl) ?_
  intro p e s m below meth c ls Q hQ hx hb hr hlocks hts hown hml hP hK hl
  have hl : lv_has ls 4 [(0, .ref x0), (1, .int bi), (2, .int w)] := hl
  have hown : s.vm.findClass R_M = some m.cls := hown
  have ht : ∀ w ∈ BIG, w.before _ s = true := fun w h => hts w (List.mem_cons_of_mem _ h)
  refine lv_aload_n hx hb d_M_what_0 rfl (lv_at hl 0 rfl) ?_
  refine lv_iload_n hx hb d_M_what_1 rfl (lv_at hl 1 rfl) ?_
  refine goRv (va_runV (As := [.int bi]) (rest := []) ⟨hx, hb, hml, hown, hts⟩ (c_M_find l D cI cL cO x0 lim a0 k0 u0 v0 t1 gen wrg rns als d0 sz mo cap rf h0 q1 q2 q3 q4 q5 o f ee t b ic bc sa gn bi hi0 hi1 hi2 hi3) (cwV 1 hts (gBIG (m4 k_ml_M_64 k_im_M_find k_sel_M_find k_ini_M) k_co_M_find) rfl rfl rfl (by decide +kernel) ⟨Nat.le_of_ble_eq_true rfl, Nat.le_of_ble_eq_true rfl⟩) ⟨PR.bl, va_recv hK.1 (P_app.mpr ⟨(P_app.mp hP).1, (P_app.mpr ⟨(P_app.mp (P_app.mp hP).2).1, (P_app.mpr ⟨(P_app.mp (P_app.mp (P_app.mp hP).2).2).1, (P_app.mp (P_app.mp (P_app.mp hP).2).2).2⟩)⟩)⟩) (ci := 3) (q0 := 0) rfl rfl, PR.pre (P_app.mpr ⟨(P_app.mp hP).1, (P_app.mpr ⟨(P_app.mp (P_app.mp hP).2).1, (P_app.mpr ⟨(P_app.mp (P_app.mp (P_app.mp hP).2).2).1, (P_app.mp (P_app.mp (P_app.mp hP).2).2).2⟩)⟩)⟩) hK⟩ rfl rfl hl.1 rfl (lv_room (Nat.le_of_ble_eq_true rfl)) d_M_what_2 ⟨Nat.le_of_ble_eq_true rfl, Nat.le_of_ble_eq_true rfl⟩) ?_
  refine lv_astore_n (lv' := [(3, .ref h0), (0, .ref x0), (1, .int bi), (2, .int w)]) hx hb d_M_what_5 rfl hl (by decide) rfl (fun ls hl => ?_)
  refine lv_iload_n hx hb d_M_what_6 rfl (lv_at hl 3 rfl) ?_
  by_cases c_7_0 : w = 0
  · refine lv_tableIn (off := 29) (tgt := 36) hx hb d_M_what_7 (by rw [c_7_0]; decide) (by rw [c_7_0]; decide) (by rw [c_7_0] <;> rfl) (by decide) ?_
    refine lv_aload_n hx hb d_M_what_36 rfl (lv_at hl 0 rfl) ?_
    refine va_getN (ci := 0) (v := .int sa) (C := R_B) (T := T_B) (N := 9) hx hb ht in_B hown hK.1 hP 3 rfl rfl 7 (by decide) (va_Nw.use rfl (hK.2 _ n_fl_M_100)) (fun _ h9 => h9) rfl d_M_what_37 ?_
    rw [hQ]; exact retRi hx hb hr hlocks (by first | (simp only [whM, if_pos c_7_0]; done) | simp [whM, c_7_0]) d_M_what_40
  by_cases c_7_1 : w = 1
  · refine lv_tableIn (off := 34) (tgt := 41) hx hb d_M_what_7 (by rw [c_7_1]; decide) (by rw [c_7_1]; decide) (by rw [c_7_1] <;> rfl) (by decide) ?_
    refine lv_aload_n hx hb d_M_what_41 rfl (lv_at hl 0 rfl) ?_
    refine va_getN (ci := 0) (v := .int gn) (C := R_B) (T := T_B) (N := 9) hx hb ht in_B hown hK.1 hP 3 rfl rfl 8 (by decide) (va_Nw.use rfl (hK.2 _ n_fl_M_106)) (fun _ h9 => h9) rfl d_M_what_42 ?_
    rw [hQ]; exact retRi hx hb hr hlocks (by first | (simp only [whM, if_neg c_7_0, if_pos c_7_1]; done) | simp [whM, c_7_0, c_7_1]) d_M_what_45
  by_cases c_7_2 : w = 2
  · refine lv_tableIn (off := 39) (tgt := 46) hx hb d_M_what_7 (by rw [c_7_2]; decide) (by rw [c_7_2]; decide) (by rw [c_7_2] <;> rfl) (by decide) ?_
    refine lv_aload_n hx hb d_M_what_46 rfl (lv_at hl 0 rfl) ?_
    refine va_getN (ci := 0) (v := .int ic) (C := R_B) (T := T_B) (N := 9) hx hb ht in_B hown hK.1 hP 3 rfl rfl 5 (by decide) (va_Nw.use rfl (hK.2 _ n_fl_M_81)) (fun _ h9 => h9) rfl d_M_what_47 ?_
    rw [hQ]; exact retRi hx hb hr hlocks (by first | (simp only [whM, if_neg c_7_0, if_neg c_7_1, if_pos c_7_2]; done) | simp [whM, c_7_0, c_7_1, c_7_2]) d_M_what_50
  by_cases c_7_3 : w = 3
  · refine lv_tableIn (off := 44) (tgt := 51) hx hb d_M_what_7 (by rw [c_7_3]; decide) (by rw [c_7_3]; decide) (by rw [c_7_3] <;> rfl) (by decide) ?_
    refine lv_aload_n hx hb d_M_what_51 rfl (lv_at hl 0 rfl) ?_
    refine va_getN (ci := 0) (v := .int bc) (C := R_B) (T := T_B) (N := 9) hx hb ht in_B hown hK.1 hP 3 rfl rfl 6 (by decide) (va_Nw.use rfl (hK.2 _ n_fl_M_107)) (fun _ h9 => h9) rfl d_M_what_52 ?_
    rw [hQ]; exact retRi hx hb hr hlocks (by first | (simp only [whM, if_neg c_7_0, if_neg c_7_1, if_neg c_7_2, if_pos c_7_3]; done) | simp [whM, c_7_0, c_7_1, c_7_2, c_7_3]) d_M_what_55
  exact (v1.elim c_7_0 (fun h => h.elim c_7_1 (fun h => h.elim c_7_2 c_7_3))).elim

set_option maxHeartbeats 1000000 in
set_option maxRecDepth 100000 in
theorem c_M_whatX (l : Launch) (D : va_G) (cI cL cO : ClassId) (N t0 mi : Nat) (hl0 : l.stackTraces = false) (x0 : Nat) (lim : Int32) (a0 : Nat) (k0 : Nat) (u0 : Nat) (v0 : Nat) (t1 : Nat) (gen : Int32) (wrg : Int32) (rns : Int32) (als : Int32) (d0 : Nat) (sz : Int32) (mo : Int32) (fr : va_W) (bi : Int32) (w : Int32) (hbad : bi < 0 ∨ ¬ bi < sz) : CT l y_M_what w_M_what ({ frames := 7, cells := 1, slots := 6, locals := 103 }) D cI cL cO N t0 mi [.ref x0, .int bi, .int w] ((wX x0 lim a0 k0 u0 v0 t1 gen wrg rns als) ++ ((wH a0 d0 sz mo) ++ fr)) "java/lang/IndexOutOfBoundsException" (fun u : Unit => ((wX x0 lim a0 k0 u0 v0 t1 gen wrg rns als) ++ ((wH a0 d0 sz mo) ++ fr))) 1 6 := by
  refine ofT (cc := b_M_what) (maxL := 4) (ret := (some .int)) (by decide) rfl (Nat.le_of_ble_eq_true rfl) ?_
  intro p e s m below meth c A ls H Q hQ hx hb hr hlocks hmt hts hown hml hP hK hD hS hA hl hE hN hAN
  have hl : lv_has ls 4 [(0, .ref x0), (1, .int bi), (2, .int w)] := hl
  have hown : s.vm.findClass R_M = some m.cls := hown
  have ht : ∀ w ∈ BIG, w.before _ s = true := fun w h => hts w (List.mem_cons_of_mem _ h)
  refine lv_aload_n hx hb d_M_what_0 rfl (lv_at hl 0 rfl) ?_
  refine lv_iload_n hx hb d_M_what_1 rfl (lv_at hl 1 rfl) ?_
  rw [hQ]; exact passT (runT (As := [.int bi]) (rest := []) ⟨hx, hb, hml, hown, hts⟩ (c_M_findT l D cI cL cO N t0 mi hl0 x0 lim a0 k0 u0 v0 t1 gen wrg rns als d0 sz mo fr bi hbad H.size) (cwV 1 hts (gBIG (m4 k_ml_M_64 k_im_M_find k_sel_M_find k_ini_M) k_co_M_find) rfl rfl rfl (by decide +kernel) ⟨Nat.le_of_ble_eq_true rfl, Nat.le_of_ble_eq_true rfl⟩) ⟨PX.bl, va_recv hK.1 hP (ci := 3) (q0 := 0) rfl rfl, PX.pre hP hD hK hE hS hAN hN⟩ rfl rfl hl.1 rfl (lv_room (Nat.le_of_ble_eq_true rfl)) d_M_what_2 ⟨Nat.le_of_ble_eq_true rfl, Nat.le_of_ble_eq_true rfl⟩) rfl rfl rfl hlocks hmt hS (A_in hD hS hA) (fun H1 h1 => by obtain ⟨u, h2, h3⟩ := h1; exact ⟨u, h2, h3.weaken (fun _ q _ h => A_in hD hS hA q.1 h)⟩)

set_option maxHeartbeats 1000000 in
set_option maxRecDepth 100000 in
theorem c_M_whatA (l : Launch) (D : va_G) (cI cL cO : ClassId) (N t0 mi : Nat) (hl0 : l.stackTraces = false) (x0 : Nat) (lim : Int32) (a0 : Nat) (k0 : Nat) (u0 : Nat) (v0 : Nat) (t1 : Nat) (gen : Int32) (wrg : Int32) (rns : Int32) (als : Int32) (d0 : Nat) (sz : Int32) (mo : Int32) (cap : Nat) (rf : Nat → Option Nat) (h0 : Nat) (q1 : Nat) (q2 : Nat) (q3 : Nat) (q4 : Nat) (q5 : Nat) (o : Fn) (f : Fn) (ee : Fn) (t : Fn) (b : Fn) (ic : Int32) (bc : Int32) (sa : Int32) (gn : Int32) (fr : va_W) (bi : Int32) (w : Int32) (hi0 : ¬ bi < 0) (hi1 : bi < sz) (hi2 : vp_in bi cap) (hi3 : rf bi.toNatClampNeg = some h0) (v1 : ¬ (w = 0 ∨ w = 1 ∨ w = 2 ∨ w = 3)) : CT l y_M_what w_M_what ({ frames := 6, cells := 1, slots := 6, locals := 85 }) D cI cL cO N t0 mi [.ref x0, .int bi, .int w] ((wX x0 lim a0 k0 u0 v0 t1 gen wrg rns als) ++ ((wH a0 d0 sz mo) ++ ((wR cO d0 cap rf) ++ ((wB cI h0 q1 q2 q3 q4 q5 o f ee t b ic bc sa gn) ++ fr)))) "java/lang/IllegalArgumentException" (fun u : Unit => ((wX x0 lim a0 k0 u0 v0 t1 gen wrg rns als) ++ ((wH a0 d0 sz mo) ++ ((wR cO d0 cap rf) ++ ((wB cI h0 q1 q2 q3 q4 q5 o f ee t b ic bc sa gn) ++ fr))))) 1 6 := by
  refine ofT (cc := b_M_what) (maxL := 4) (ret := (some .int)) (by decide) rfl (Nat.le_of_ble_eq_true rfl) ?_
  intro p e s m below meth c A ls H Q hQ hx hb hr hlocks hmt hts hown hml hP hK hD hS hA hl hE hN hAN
  have hl : lv_has ls 4 [(0, .ref x0), (1, .int bi), (2, .int w)] := hl
  have hown : s.vm.findClass R_M = some m.cls := hown
  have ht : ∀ w ∈ BIG, w.before _ s = true := fun w h => hts w (List.mem_cons_of_mem _ h)
  refine lv_aload_n hx hb d_M_what_0 rfl (lv_at hl 0 rfl) ?_
  refine lv_iload_n hx hb d_M_what_1 rfl (lv_at hl 1 rfl) ?_
  refine goRv (va_runV (As := [.int bi]) (rest := []) ⟨hx, hb, hml, hown, hts⟩ (c_M_find l D cI cL cO x0 lim a0 k0 u0 v0 t1 gen wrg rns als d0 sz mo cap rf h0 q1 q2 q3 q4 q5 o f ee t b ic bc sa gn bi hi0 hi1 hi2 hi3) (cwV 1 hts (gBIG (m4 k_ml_M_64 k_im_M_find k_sel_M_find k_ini_M) k_co_M_find) rfl rfl rfl (by decide +kernel) ⟨Nat.le_of_ble_eq_true rfl, Nat.le_of_ble_eq_true rfl⟩) ⟨PR.bl, va_recv hK.1 (P_app.mpr ⟨(P_app.mp hP).1, (P_app.mpr ⟨(P_app.mp (P_app.mp hP).2).1, (P_app.mpr ⟨(P_app.mp (P_app.mp (P_app.mp hP).2).2).1, (P_app.mp (P_app.mp (P_app.mp (P_app.mp hP).2).2).2).1⟩)⟩)⟩) (ci := 3) (q0 := 0) rfl rfl, PR.pre (P_app.mpr ⟨(P_app.mp hP).1, (P_app.mpr ⟨(P_app.mp (P_app.mp hP).2).1, (P_app.mpr ⟨(P_app.mp (P_app.mp (P_app.mp hP).2).2).1, (P_app.mp (P_app.mp (P_app.mp (P_app.mp hP).2).2).2).1⟩)⟩)⟩) hK⟩ rfl rfl hl.1 rfl (lv_room (Nat.le_of_ble_eq_true rfl)) d_M_what_2 ⟨Nat.le_of_ble_eq_true rfl, Nat.le_of_ble_eq_true rfl⟩) ?_
  refine lv_astore_n (lv' := [(3, .ref h0), (0, .ref x0), (1, .int bi), (2, .int w)]) hx hb d_M_what_5 rfl hl (by decide) rfl (fun ls hl => ?_)
  refine lv_iload_n hx hb d_M_what_6 rfl (lv_at hl 3 rfl) ?_
  by_cases c_7_0 : w = 0
  · exact absurd (Or.inl c_7_0) v1
  by_cases c_7_1 : w = 1
  · exact absurd (Or.inr (Or.inl c_7_1)) v1
  by_cases c_7_2 : w = 2
  · exact absurd (Or.inr (Or.inr (Or.inl c_7_2))) v1
  by_cases c_7_3 : w = 3
  · exact absurd (Or.inr (Or.inr (Or.inr c_7_3))) v1
  refine lv_tableOut (tgt := 56) hx hb d_M_what_7 (by have := lv_neT c_7_0 (show (0 : Int32).toInt = 0 by decide); have := lv_neT c_7_1 (show (1 : Int32).toInt = 1 by decide); have := lv_neT c_7_2 (show (2 : Int32).toInt = 2 by decide); have := lv_neT c_7_3 (show (3 : Int32).toInt = 3 by decide); omega) (by decide) ?_
  rw [hQ]; exact w_throw (X := "java/lang/IllegalArgumentException") (tx := "no such what") (ic := 80) (ik := 76) (is := 141) (N := N) hx hb hl0 hlocks hown th2 kx4_A ht hE.1 (by decide) kx1_A kx2_A kx3_A hmt (hl.1.trans hml.symm) hS hAN hN d_M_what_56 d_M_what_59 d_M_what_60 d_M_what_62 d_M_what_65 (Nat.le_of_ble_eq_true rfl) (Nat.le_of_ble_eq_true rfl) (Nat.le_of_ble_eq_true rfl) (Nat.le_of_ble_eq_true rfl) (fun H1 up => ⟨(), P_up hP up, hD⟩)

def rnM (o f ee b : Fn) (ic bc sa rns als : Int32) (x y : Int64) (pl : FL) (r rns' als' : Int32) (g' : FL) (sp' en' bb' : Int32) : Prop :=
  r = sp' ∧ rns' = rns + 1 ∧ als' = als + sp' ∧ (sa = 2 → g' = (byF b bc x y pl).1 ∧ sp' = (byF b bc x y pl).2.2.1 ∧ en' = (byF b bc x y pl).2.2.2 ∧ bb' = 1) ∧ (¬ sa = 2 → (g', sp', en') = roF o f ee ic x y ∧ bb' = 0)
abbrev w_M_run : List Cond := .code y_M_run b_M_run 7 (some .int) :: BIG
set_option maxHeartbeats 1000000 in
set_option maxRecDepth 100000 in
theorem c_M_run (l : Launch) (D : va_G) (cI cL cO : ClassId) (x0 : Nat) (lim : Int32) (a0 : Nat) (k0 : Nat) (u0 : Nat) (v0 : Nat) (t1 : Nat) (gen : Int32) (wrg : Int32) (rns : Int32) (als : Int32) (d0 : Nat) (sz : Int32) (mo : Int32) (cap : Nat) (rf : Nat → Option Nat) (h0 : Nat) (q1 : Nat) (q2 : Nat) (q3 : Nat) (q4 : Nat) (q5 : Nat) (o : Fn) (f : Fn) (ee : Fn) (t : Fn) (b : Fn) (ic : Int32) (bc : Int32) (sa : Int32) (gn : Int32) (u1 : Nat) (u2 : Nat) (hg : Int32) (su : Int32) (en : Int32) (bb : Int32) (g : FL) (pl : FL) (fr : va_W) (bi : Int32) (x : Int64) (y : Int64) (hi0 : ¬ bi < 0) (hi1 : bi < sz) (hi2 : vp_in bi cap) (hi3 : rf bi.toNatClampNeg = some h0) (hic : ¬ ic < 0) : CMi l y_M_run w_M_run ({ frames := 6, cells := 0, slots := 0, locals := 135 }) D cI cL cO [.ref x0, .int bi, .long x, .long y] ((wX x0 lim a0 k0 u0 v0 t1 gen wrg rns als) ++ ((wH a0 d0 sz mo) ++ ((wR cO d0 cap rf) ++ ((wB cI h0 q1 q2 q3 q4 q5 o f ee t b ic bc sa gn) ++ ((wU u0 u1 u2 hg su en bb) ++ ((wL4 cL u1 g) ++ ((wL4 cL u2 pl) ++ fr))))))) (fun (r : Int32) (u : Int32 × Int32 × Int32 × Int32 × Int32 × Int32 × FL × FL) => rnM o f ee b ic bc sa rns als x y pl r u.1 u.2.1 u.2.2.2.2.2.2.1 u.2.2.2.1 u.2.2.2.2.1 u.2.2.2.2.2.1) (fun u : Int32 × Int32 × Int32 × Int32 × Int32 × Int32 × FL × FL => ((wX x0 lim a0 k0 u0 v0 t1 gen wrg u.1 u.2.1) ++ ((wH a0 d0 sz mo) ++ ((wR cO d0 cap rf) ++ ((wB cI h0 q1 q2 q3 q4 q5 o f ee t b ic bc sa gn) ++ ((wU u0 u1 u2 u.2.2.1 u.2.2.2.1 u.2.2.2.2.1 u.2.2.2.2.2.1) ++ ((wL4 cL u1 u.2.2.2.2.2.2.1) ++ ((wL4 cL u2 u.2.2.2.2.2.2.2) ++ fr)))))))) 0 0 := by
  refine ofMi (cc := b_M_run) (maxL := 7) (ret := (some .int)) (by decide) rfl (Nat.le_of_ble_eq_true rfl) ?_
  intro p e s m below meth c A ls H Q hQ hx hb hr hlocks hin hts hown hml hP hK hD hS hA hl
  have hl : lv_has ls 7 [(0, .ref x0), (1, .int bi), (2, .long x), (4, .long y)] := hl
  have hown : s.vm.findClass R_M = some m.cls := hown
  have ht : ∀ w ∈ BIG, w.before _ s = true := fun w h => hts w (List.mem_cons_of_mem _ h)
  refine lv_aload_n hx hb d_M_run_0 rfl (lv_at hl 0 rfl) ?_
  refine lv_iload_n hx hb d_M_run_1 rfl (lv_at hl 1 rfl) ?_
  refine goRv (va_runV (As := [.int bi]) (rest := []) ⟨hx, hb, hml, hown, hts⟩ (c_M_find l D cI cL cO x0 lim a0 k0 u0 v0 t1 gen wrg rns als d0 sz mo cap rf h0 q1 q2 q3 q4 q5 o f ee t b ic bc sa gn bi hi0 hi1 hi2 hi3) (cwV 1 hts (gBIG (m4 k_ml_M_64 k_im_M_find k_sel_M_find k_ini_M) k_co_M_find) rfl rfl rfl (by decide +kernel) ⟨Nat.le_of_ble_eq_true rfl, Nat.le_of_ble_eq_true rfl⟩) ⟨PR.bl, va_recv hK.1 (P_app.mpr ⟨(P_app.mp hP).1, (P_app.mpr ⟨(P_app.mp (P_app.mp hP).2).1, (P_app.mpr ⟨(P_app.mp (P_app.mp (P_app.mp hP).2).2).1, (P_app.mp (P_app.mp (P_app.mp (P_app.mp hP).2).2).2).1⟩)⟩)⟩) (ci := 3) (q0 := 0) rfl rfl, PR.pre (P_app.mpr ⟨(P_app.mp hP).1, (P_app.mpr ⟨(P_app.mp (P_app.mp hP).2).1, (P_app.mpr ⟨(P_app.mp (P_app.mp (P_app.mp hP).2).2).1, (P_app.mp (P_app.mp (P_app.mp (P_app.mp hP).2).2).2).1⟩)⟩)⟩) hK⟩ rfl rfl hl.1 rfl (lv_room (Nat.le_of_ble_eq_true rfl)) d_M_run_2 ⟨Nat.le_of_ble_eq_true rfl, Nat.le_of_ble_eq_true rfl⟩) ?_
  refine lv_astore (lv' := [(6, .ref h0), (0, .ref x0), (1, .int bi), (2, .long x), (4, .long y)]) hx hb d_M_run_5 hl (by decide) rfl (fun ls hl => ?_)
  refine lv_aload hx hb d_M_run_7 (lv_at hl 0 rfl) ?_
  refine va_getN (ci := 0) (v := .int sa) (C := R_B) (T := T_B) (N := 9) hx hb ht in_B hown hK.1 hP 3 rfl rfl 7 (by decide) (va_Nw.use rfl (hK.2 _ n_fl_M_100)) (fun _ h9 => h9) rfl d_M_run_9 ?_
  refine lv_iconst (v := 2) hx hb d_M_run_12 (by decide) ?_
  refine lv_icmp_ne (tgt := 31) hx hb d_M_run_13 (by decide) (fun c_13 => ?_) (fun c_13 => ?_)
  · refine lv_aload_n hx hb d_M_run_31 rfl (lv_at hl 1 rfl) ?_
    refine va_get (ci := 3) (v := .ref u0) (C := R_M) (T := T_M) (N := 10) hx hb ht in_M hown hK.1 hP 0 rfl rfl 3 (by decide) (ht _ k_fl_M_26) (fun _ h9 => h9) rfl d_M_run_32 ?_
    refine lv_aload hx hb d_M_run_35 (lv_at hl 0 rfl) ?_
    refine lv_lload_n hx hb d_M_run_37 rfl (lv_at hl 3 rfl) ?_
    refine lv_lload hx hb d_M_run_38 (lv_at hl 4 rfl) ?_
    have hP := P_sw3 hP
    have hD := D_sw3 hD
    have hP := P_sw2 hP
    have hD := D_sw2 hD
    have hP := P_sw1 hP
    have hD := D_sw1 hD
    have hP := P_sw hP
    have hD := D_sw hD
    have hP := P_sw4 hP
    have hD := D_sw4 hD
    have hP := P_sw3 hP
    have hD := D_sw3 hD
    have hP := P_sw2 hP
    have hD := D_sw2 hD
    have hP := P_sw1 hP
    have hD := D_sw1 hD
    have hP := P_sw4 hP
    have hD := D_sw4 hD
    have hP := P_sw3 hP
    have hD := D_sw3 hD
    have hP := P_sw2 hP
    have hD := D_sw2 hD
    refine goMv (va_runVN (As := [.ref h0, .long x, .long y]) (rest := []) ⟨hx, hb, hml, hown, hts⟩ (c_U_followRows l D cI cL cO u0 u1 u2 hg su en bb g h0 q1 q2 q3 q4 q5 o f ee t b ic bc sa gn ((wX x0 lim a0 k0 u0 v0 t1 gen wrg rns als) ++ ((wH a0 d0 sz mo) ++ ((wR cO d0 cap rf) ++ ((wL4 cL u2 pl) ++ fr)))) x y hic H.size) ⟨va_cnB 3 hts (gB0 k_co_U_followRows) rfl rfl rfl (hK.2 _ n_ml_M_150) (ht _ k_ini_U) (by decide +kernel) ⟨Nat.le_of_ble_eq_true rfl, Nat.le_of_ble_eq_true rfl⟩, ht _ k_im_U_followRows, ht _ k_sel_U_followRows⟩ ⟨PM.bl, va_recv hK.1 hP (ci := 2) (q0 := 0) rfl rfl, PM.pre hP hD hK⟩ rfl rfl hl.1 rfl (lv_room (Nat.le_of_ble_eq_true rfl)) d_M_run_40 ⟨Nat.le_of_ble_eq_true rfl, Nat.le_of_ble_eq_true rfl⟩) hD hS hA (fun u H locs hw hP hD hS => ?_)
    obtain ⟨g_40, hg_40, sp_40, en_40, bb_40⟩ := u
    have e_40 : (g_40, sp_40, en_40) = roF o f ee ic x y ∧ hg_40 = 0 ∧ bb_40 = 0 := hw
    have hP : va_P D vwCl ((wU u0 u1 u2 hg_40 sp_40 en_40 bb_40) ++ ((wL4 cL u1 g_40) ++ ((wB cI h0 q1 q2 q3 q4 q5 o f ee t b ic bc sa gn) ++ ((wX x0 lim a0 k0 u0 v0 t1 gen wrg rns als) ++ ((wH a0 d0 sz mo) ++ ((wR cO d0 cap rf) ++ ((wL4 cL u2 pl) ++ fr))))))) H := hP
    have hD : va_D A ((wU u0 u1 u2 hg_40 sp_40 en_40 bb_40) ++ ((wL4 cL u1 g_40) ++ ((wB cI h0 q1 q2 q3 q4 q5 o f ee t b ic bc sa gn) ++ ((wX x0 lim a0 k0 u0 v0 t1 gen wrg rns als) ++ ((wH a0 d0 sz mo) ++ ((wR cO d0 cap rf) ++ ((wL4 cL u2 pl) ++ fr))))))) := hD
    have hP := P_sw1 hP
    have hD := D_sw1 hD
    have hP := P_sw2 hP
    have hD := D_sw2 hD
    have hP := P_sw3 hP
    have hD := D_sw3 hD
    have hP := P_sw4 hP
    have hD := D_sw4 hD
    have hP := P_sw hP
    have hD := D_sw hD
    have hP := P_sw1 hP
    have hD := D_sw1 hD
    have hP := P_sw2 hP
    have hD := D_sw2 hD
    have hP := P_sw3 hP
    have hD := D_sw3 hD
    have hP := P_sw hP
    have hD := D_sw hD
    have hP := P_sw1 hP
    have hD := D_sw1 hD
    have hP := P_sw2 hP
    have hD := D_sw2 hD
    have hP : va_P D vwCl ((wX x0 lim a0 k0 u0 v0 t1 gen wrg rns als) ++ ((wH a0 d0 sz mo) ++ ((wR cO d0 cap rf) ++ ((wB cI h0 q1 q2 q3 q4 q5 o f ee t b ic bc sa gn) ++ ((wU u0 u1 u2 hg_40 sp_40 en_40 bb_40) ++ ((wL4 cL u1 g_40) ++ ((wL4 cL u2 pl) ++ fr))))))) H := hP
    have hD : va_D A ((wX x0 lim a0 k0 u0 v0 t1 gen wrg rns als) ++ ((wH a0 d0 sz mo) ++ ((wR cO d0 cap rf) ++ ((wB cI h0 q1 q2 q3 q4 q5 o f ee t b ic bc sa gn) ++ ((wU u0 u1 u2 hg_40 sp_40 en_40 bb_40) ++ ((wL4 cL u1 g_40) ++ ((wL4 cL u2 pl) ++ fr))))))) := hD
    refine lv_aload_n hx hb d_M_run_43 rfl (lv_at hl 1 rfl) ?_
    refine lv_dup hx hb d_M_run_44 rfl ?_
    refine va_get (ci := 3) (v := .int rns) (C := R_M) (T := T_M) (N := 10) hx hb ht in_M hown hK.1 hP 0 rfl rfl 8 (by decide) (ht _ k_fl_M_153) (fun _ h9 => h9) rfl d_M_run_45 ?_
    refine lv_iconst (v := 1) hx hb d_M_run_48 (by decide) ?_
    refine lv_iadd hx hb d_M_run_49 ?_
    refine va_put (ci := 3) (v := .int (rns + 1)) (ty := .int) (C := R_M) (T := T_M) (N := 10) hx hb ht in_M t_M t_M_ok n_M hown hK.1 hP hD hS 0 rfl rfl 8 (by decide) (ht _ k_fl_M_153) (fun _ h9 => h9) rfl (by decide +kernel) rfl rfl (Nat.le_of_ble_eq_true rfl) d_M_run_50 (fun H locs hP hD hS => ?_)
    have hP : va_P D vwCl ((wX x0 lim a0 k0 u0 v0 t1 gen wrg (rns + 1) als) ++ ((wH a0 d0 sz mo) ++ ((wR cO d0 cap rf) ++ ((wB cI h0 q1 q2 q3 q4 q5 o f ee t b ic bc sa gn) ++ ((wU u0 u1 u2 hg_40 sp_40 en_40 bb_40) ++ ((wL4 cL u1 g_40) ++ ((wL4 cL u2 pl) ++ fr))))))) H := hP
    have hD : va_D A ((wX x0 lim a0 k0 u0 v0 t1 gen wrg (rns + 1) als) ++ ((wH a0 d0 sz mo) ++ ((wR cO d0 cap rf) ++ ((wB cI h0 q1 q2 q3 q4 q5 o f ee t b ic bc sa gn) ++ ((wU u0 u1 u2 hg_40 sp_40 en_40 bb_40) ++ ((wL4 cL u1 g_40) ++ ((wL4 cL u2 pl) ++ fr))))))) := hD
    refine lv_aload_n hx hb d_M_run_53 rfl (lv_at hl 1 rfl) ?_
    refine lv_dup hx hb d_M_run_54 rfl ?_
    refine va_get (ci := 3) (v := .int als) (C := R_M) (T := T_M) (N := 10) hx hb ht in_M hown hK.1 hP 0 rfl rfl 9 (by decide) (ht _ k_fl_M_156) (fun _ h9 => h9) rfl d_M_run_55 ?_
    refine lv_aload_n hx hb d_M_run_58 rfl (lv_at hl 1 rfl) ?_
    refine va_get (ci := 3) (v := .ref u0) (C := R_M) (T := T_M) (N := 10) hx hb ht in_M hown hK.1 hP 0 rfl rfl 3 (by decide) (ht _ k_fl_M_26) (fun _ h9 => h9) rfl d_M_run_59 ?_
    refine va_getN (ci := 2) (v := .int sp_40) (C := R_U) (T := T_U) (N := 6) hx hb ht in_U hown hK.1 hP 9 rfl rfl 3 (by decide) (va_Nw.use rfl (hK.2 _ n_fl_M_159)) (fun _ h9 => h9) rfl d_M_run_62 ?_
    refine lv_iadd hx hb d_M_run_65 ?_
    refine va_put (ci := 3) (v := .int (als + sp_40)) (ty := .int) (C := R_M) (T := T_M) (N := 10) hx hb ht in_M t_M t_M_ok n_M hown hK.1 hP hD hS 0 rfl rfl 9 (by decide) (ht _ k_fl_M_156) (fun _ h9 => h9) rfl (by decide +kernel) rfl rfl (Nat.le_of_ble_eq_true rfl) d_M_run_66 (fun H locs hP hD hS => ?_)
    have hP : va_P D vwCl ((wX x0 lim a0 k0 u0 v0 t1 gen wrg (rns + 1) (als + sp_40)) ++ ((wH a0 d0 sz mo) ++ ((wR cO d0 cap rf) ++ ((wB cI h0 q1 q2 q3 q4 q5 o f ee t b ic bc sa gn) ++ ((wU u0 u1 u2 hg_40 sp_40 en_40 bb_40) ++ ((wL4 cL u1 g_40) ++ ((wL4 cL u2 pl) ++ fr))))))) H := hP
    have hD : va_D A ((wX x0 lim a0 k0 u0 v0 t1 gen wrg (rns + 1) (als + sp_40)) ++ ((wH a0 d0 sz mo) ++ ((wR cO d0 cap rf) ++ ((wB cI h0 q1 q2 q3 q4 q5 o f ee t b ic bc sa gn) ++ ((wU u0 u1 u2 hg_40 sp_40 en_40 bb_40) ++ ((wL4 cL u1 g_40) ++ ((wL4 cL u2 pl) ++ fr))))))) := hD
    refine lv_aload_n hx hb d_M_run_69 rfl (lv_at hl 1 rfl) ?_
    refine va_get (ci := 3) (v := .ref u0) (C := R_M) (T := T_M) (N := 10) hx hb ht in_M hown hK.1 hP 0 rfl rfl 3 (by decide) (ht _ k_fl_M_26) (fun _ h9 => h9) rfl d_M_run_70 ?_
    refine va_getN (ci := 2) (v := .int sp_40) (C := R_U) (T := T_U) (N := 6) hx hb ht in_U hown hK.1 hP 9 rfl rfl 3 (by decide) (va_Nw.use rfl (hK.2 _ n_fl_M_159)) (fun _ h9 => h9) rfl d_M_run_73 ?_
    rw [hQ]; exact retMi (w1 := fun u : Int32 × Int32 × Int32 × Int32 × Int32 × Int32 × FL × FL => ((wX x0 lim a0 k0 u0 v0 t1 gen wrg u.1 u.2.1) ++ ((wH a0 d0 sz mo) ++ ((wR cO d0 cap rf) ++ ((wB cI h0 q1 q2 q3 q4 q5 o f ee t b ic bc sa gn) ++ ((wU u0 u1 u2 u.2.2.1 u.2.2.2.1 u.2.2.2.2.1 u.2.2.2.2.2.1) ++ ((wL4 cL u1 u.2.2.2.2.2.2.1) ++ ((wL4 cL u2 u.2.2.2.2.2.2.2) ++ fr)))))))) (rns + 1, als + sp_40, hg_40, sp_40, en_40, bb_40, g_40, pl) hx hb hr hlocks hP hD hS (by obtain ⟨e1, -, e2⟩ := e_40; exact ⟨rfl, rfl, rfl, fun h => absurd h c_13, fun _ => ⟨e1, e2⟩⟩) d_M_run_76
  · refine lv_aload_n hx hb d_M_run_16 rfl (lv_at hl 1 rfl) ?_
    refine va_get (ci := 3) (v := .ref u0) (C := R_M) (T := T_M) (N := 10) hx hb ht in_M hown hK.1 hP 0 rfl rfl 3 (by decide) (ht _ k_fl_M_26) (fun _ h9 => h9) rfl d_M_run_17 ?_
    refine lv_aload hx hb d_M_run_20 (lv_at hl 0 rfl) ?_
    refine lv_lload_n hx hb d_M_run_22 rfl (lv_at hl 3 rfl) ?_
    refine lv_lload hx hb d_M_run_23 (lv_at hl 4 rfl) ?_
    have hP := P_sw3 hP
    have hD := D_sw3 hD
    have hP := P_sw2 hP
    have hD := D_sw2 hD
    have hP := P_sw1 hP
    have hD := D_sw1 hD
    have hP := P_sw hP
    have hD := D_sw hD
    have hP := P_sw4 hP
    have hD := D_sw4 hD
    have hP := P_sw3 hP
    have hD := D_sw3 hD
    have hP := P_sw2 hP
    have hD := D_sw2 hD
    have hP := P_sw1 hP
    have hD := D_sw1 hD
    have hP := P_sw5 hP
    have hD := D_sw5 hD
    have hP := P_sw4 hP
    have hD := D_sw4 hD
    have hP := P_sw3 hP
    have hD := D_sw3 hD
    have hP := P_sw2 hP
    have hD := D_sw2 hD
    have hP := P_sw5 hP
    have hD := D_sw5 hD
    have hP := P_sw4 hP
    have hD := D_sw4 hD
    have hP := P_sw3 hP
    have hD := D_sw3 hD
    refine goMv (va_runVN (As := [.ref h0, .long x, .long y]) (rest := []) ⟨hx, hb, hml, hown, hts⟩ (c_U_followBytes l D cI cL cO u0 u1 u2 hg su en bb g pl h0 q1 q2 q3 q4 q5 o f ee t b ic bc sa gn ((wX x0 lim a0 k0 u0 v0 t1 gen wrg rns als) ++ ((wH a0 d0 sz mo) ++ ((wR cO d0 cap rf) ++ fr))) x y H.size) ⟨va_cnB 3 hts (gB0 k_co_U_followBytes) rfl rfl rfl (hK.2 _ n_ml_M_146) (ht _ k_ini_U) (by decide +kernel) ⟨Nat.le_of_ble_eq_true rfl, Nat.le_of_ble_eq_true rfl⟩, ht _ k_im_U_followBytes, ht _ k_sel_U_followBytes⟩ ⟨PM.bl, va_recv hK.1 hP (ci := 2) (q0 := 0) rfl rfl, PM.pre hP hD hK⟩ rfl rfl hl.1 rfl (lv_room (Nat.le_of_ble_eq_true rfl)) d_M_run_25 ⟨Nat.le_of_ble_eq_true rfl, Nat.le_of_ble_eq_true rfl⟩) hD hS hA (fun u H locs hw hP hD hS => ?_)
    obtain ⟨g_25, pl_25, hg_25, sp_25, en_25, bb_25⟩ := u
    have e_25 : (g_25, (pl_25, hg_25), sp_25, en_25) = byF b bc x y pl ∧ bb_25 = 1 := hw
    have hP : va_P D vwCl ((wU u0 u1 u2 hg_25 sp_25 en_25 bb_25) ++ ((wL4 cL u1 g_25) ++ ((wL4 cL u2 pl_25) ++ ((wB cI h0 q1 q2 q3 q4 q5 o f ee t b ic bc sa gn) ++ ((wX x0 lim a0 k0 u0 v0 t1 gen wrg rns als) ++ ((wH a0 d0 sz mo) ++ ((wR cO d0 cap rf) ++ fr))))))) H := hP
    have hD : va_D A ((wU u0 u1 u2 hg_25 sp_25 en_25 bb_25) ++ ((wL4 cL u1 g_25) ++ ((wL4 cL u2 pl_25) ++ ((wB cI h0 q1 q2 q3 q4 q5 o f ee t b ic bc sa gn) ++ ((wX x0 lim a0 k0 u0 v0 t1 gen wrg rns als) ++ ((wH a0 d0 sz mo) ++ ((wR cO d0 cap rf) ++ fr))))))) := hD
    have hP := P_sw2 hP
    have hD := D_sw2 hD
    have hP := P_sw3 hP
    have hD := D_sw3 hD
    have hP := P_sw4 hP
    have hD := D_sw4 hD
    have hP := P_sw5 hP
    have hD := D_sw5 hD
    have hP := P_sw1 hP
    have hD := D_sw1 hD
    have hP := P_sw2 hP
    have hD := D_sw2 hD
    have hP := P_sw3 hP
    have hD := D_sw3 hD
    have hP := P_sw4 hP
    have hD := D_sw4 hD
    have hP := P_sw hP
    have hD := D_sw hD
    have hP := P_sw1 hP
    have hD := D_sw1 hD
    have hP := P_sw2 hP
    have hD := D_sw2 hD
    have hP := P_sw3 hP
    have hD := D_sw3 hD
    have hP := P_sw hP
    have hD := D_sw hD
    have hP := P_sw1 hP
    have hD := D_sw1 hD
    have hP := P_sw2 hP
    have hD := D_sw2 hD
    have hP : va_P D vwCl ((wX x0 lim a0 k0 u0 v0 t1 gen wrg rns als) ++ ((wH a0 d0 sz mo) ++ ((wR cO d0 cap rf) ++ ((wB cI h0 q1 q2 q3 q4 q5 o f ee t b ic bc sa gn) ++ ((wU u0 u1 u2 hg_25 sp_25 en_25 bb_25) ++ ((wL4 cL u1 g_25) ++ ((wL4 cL u2 pl_25) ++ fr))))))) H := hP
    have hD : va_D A ((wX x0 lim a0 k0 u0 v0 t1 gen wrg rns als) ++ ((wH a0 d0 sz mo) ++ ((wR cO d0 cap rf) ++ ((wB cI h0 q1 q2 q3 q4 q5 o f ee t b ic bc sa gn) ++ ((wU u0 u1 u2 hg_25 sp_25 en_25 bb_25) ++ ((wL4 cL u1 g_25) ++ ((wL4 cL u2 pl_25) ++ fr))))))) := hD
    refine lv_goto (tgt := 43) hx hb d_M_run_28 (by decide) ?_
    refine lv_aload_n hx hb d_M_run_43 rfl (lv_at hl 1 rfl) ?_
    refine lv_dup hx hb d_M_run_44 rfl ?_
    refine va_get (ci := 3) (v := .int rns) (C := R_M) (T := T_M) (N := 10) hx hb ht in_M hown hK.1 hP 0 rfl rfl 8 (by decide) (ht _ k_fl_M_153) (fun _ h9 => h9) rfl d_M_run_45 ?_
    refine lv_iconst (v := 1) hx hb d_M_run_48 (by decide) ?_
    refine lv_iadd hx hb d_M_run_49 ?_
    refine va_put (ci := 3) (v := .int (rns + 1)) (ty := .int) (C := R_M) (T := T_M) (N := 10) hx hb ht in_M t_M t_M_ok n_M hown hK.1 hP hD hS 0 rfl rfl 8 (by decide) (ht _ k_fl_M_153) (fun _ h9 => h9) rfl (by decide +kernel) rfl rfl (Nat.le_of_ble_eq_true rfl) d_M_run_50 (fun H locs hP hD hS => ?_)
    have hP : va_P D vwCl ((wX x0 lim a0 k0 u0 v0 t1 gen wrg (rns + 1) als) ++ ((wH a0 d0 sz mo) ++ ((wR cO d0 cap rf) ++ ((wB cI h0 q1 q2 q3 q4 q5 o f ee t b ic bc sa gn) ++ ((wU u0 u1 u2 hg_25 sp_25 en_25 bb_25) ++ ((wL4 cL u1 g_25) ++ ((wL4 cL u2 pl_25) ++ fr))))))) H := hP
    have hD : va_D A ((wX x0 lim a0 k0 u0 v0 t1 gen wrg (rns + 1) als) ++ ((wH a0 d0 sz mo) ++ ((wR cO d0 cap rf) ++ ((wB cI h0 q1 q2 q3 q4 q5 o f ee t b ic bc sa gn) ++ ((wU u0 u1 u2 hg_25 sp_25 en_25 bb_25) ++ ((wL4 cL u1 g_25) ++ ((wL4 cL u2 pl_25) ++ fr))))))) := hD
    refine lv_aload_n hx hb d_M_run_53 rfl (lv_at hl 1 rfl) ?_
    refine lv_dup hx hb d_M_run_54 rfl ?_
    refine va_get (ci := 3) (v := .int als) (C := R_M) (T := T_M) (N := 10) hx hb ht in_M hown hK.1 hP 0 rfl rfl 9 (by decide) (ht _ k_fl_M_156) (fun _ h9 => h9) rfl d_M_run_55 ?_
    refine lv_aload_n hx hb d_M_run_58 rfl (lv_at hl 1 rfl) ?_
    refine va_get (ci := 3) (v := .ref u0) (C := R_M) (T := T_M) (N := 10) hx hb ht in_M hown hK.1 hP 0 rfl rfl 3 (by decide) (ht _ k_fl_M_26) (fun _ h9 => h9) rfl d_M_run_59 ?_
    refine va_getN (ci := 2) (v := .int sp_25) (C := R_U) (T := T_U) (N := 6) hx hb ht in_U hown hK.1 hP 9 rfl rfl 3 (by decide) (va_Nw.use rfl (hK.2 _ n_fl_M_159)) (fun _ h9 => h9) rfl d_M_run_62 ?_
    refine lv_iadd hx hb d_M_run_65 ?_
    refine va_put (ci := 3) (v := .int (als + sp_25)) (ty := .int) (C := R_M) (T := T_M) (N := 10) hx hb ht in_M t_M t_M_ok n_M hown hK.1 hP hD hS 0 rfl rfl 9 (by decide) (ht _ k_fl_M_156) (fun _ h9 => h9) rfl (by decide +kernel) rfl rfl (Nat.le_of_ble_eq_true rfl) d_M_run_66 (fun H locs hP hD hS => ?_)
    have hP : va_P D vwCl ((wX x0 lim a0 k0 u0 v0 t1 gen wrg (rns + 1) (als + sp_25)) ++ ((wH a0 d0 sz mo) ++ ((wR cO d0 cap rf) ++ ((wB cI h0 q1 q2 q3 q4 q5 o f ee t b ic bc sa gn) ++ ((wU u0 u1 u2 hg_25 sp_25 en_25 bb_25) ++ ((wL4 cL u1 g_25) ++ ((wL4 cL u2 pl_25) ++ fr))))))) H := hP
    have hD : va_D A ((wX x0 lim a0 k0 u0 v0 t1 gen wrg (rns + 1) (als + sp_25)) ++ ((wH a0 d0 sz mo) ++ ((wR cO d0 cap rf) ++ ((wB cI h0 q1 q2 q3 q4 q5 o f ee t b ic bc sa gn) ++ ((wU u0 u1 u2 hg_25 sp_25 en_25 bb_25) ++ ((wL4 cL u1 g_25) ++ ((wL4 cL u2 pl_25) ++ fr))))))) := hD
    refine lv_aload_n hx hb d_M_run_69 rfl (lv_at hl 1 rfl) ?_
    refine va_get (ci := 3) (v := .ref u0) (C := R_M) (T := T_M) (N := 10) hx hb ht in_M hown hK.1 hP 0 rfl rfl 3 (by decide) (ht _ k_fl_M_26) (fun _ h9 => h9) rfl d_M_run_70 ?_
    refine va_getN (ci := 2) (v := .int sp_25) (C := R_U) (T := T_U) (N := 6) hx hb ht in_U hown hK.1 hP 9 rfl rfl 3 (by decide) (va_Nw.use rfl (hK.2 _ n_fl_M_159)) (fun _ h9 => h9) rfl d_M_run_73 ?_
    rw [hQ]; exact retMi (w1 := fun u : Int32 × Int32 × Int32 × Int32 × Int32 × Int32 × FL × FL => ((wX x0 lim a0 k0 u0 v0 t1 gen wrg u.1 u.2.1) ++ ((wH a0 d0 sz mo) ++ ((wR cO d0 cap rf) ++ ((wB cI h0 q1 q2 q3 q4 q5 o f ee t b ic bc sa gn) ++ ((wU u0 u1 u2 u.2.2.1 u.2.2.2.1 u.2.2.2.2.1 u.2.2.2.2.2.1) ++ ((wL4 cL u1 u.2.2.2.2.2.2.1) ++ ((wL4 cL u2 u.2.2.2.2.2.2.2) ++ fr)))))))) (rns + 1, als + sp_25, hg_25, sp_25, en_25, bb_25, g_25, pl_25) hx hb hr hlocks hP hD hS (by obtain ⟨e1, e2⟩ := e_25; exact ⟨rfl, rfl, rfl, fun _ => by rw [← e1]; exact ⟨rfl, rfl, rfl, e2⟩, fun h => absurd c_13 h⟩) d_M_run_76

set_option maxHeartbeats 1000000 in
set_option maxRecDepth 100000 in
theorem c_M_runX (l : Launch) (D : va_G) (cI cL cO : ClassId) (N t0 mi : Nat) (hl0 : l.stackTraces = false) (x0 : Nat) (lim : Int32) (a0 : Nat) (k0 : Nat) (u0 : Nat) (v0 : Nat) (t1 : Nat) (gen : Int32) (wrg : Int32) (rns : Int32) (als : Int32) (d0 : Nat) (sz : Int32) (mo : Int32) (fr : va_W) (bi : Int32) (x : Int64) (y : Int64) (hbad : bi < 0 ∨ ¬ bi < sz) : CT l y_M_run w_M_run ({ frames := 7, cells := 1, slots := 6, locals := 103 }) D cI cL cO N t0 mi [.ref x0, .int bi, .long x, .long y] ((wX x0 lim a0 k0 u0 v0 t1 gen wrg rns als) ++ ((wH a0 d0 sz mo) ++ fr)) "java/lang/IndexOutOfBoundsException" (fun u : Unit => ((wX x0 lim a0 k0 u0 v0 t1 gen wrg rns als) ++ ((wH a0 d0 sz mo) ++ fr))) 1 6 := by
  refine ofT (cc := b_M_run) (maxL := 7) (ret := (some .int)) (by decide) rfl (Nat.le_of_ble_eq_true rfl) ?_
  intro p e s m below meth c A ls H Q hQ hx hb hr hlocks hmt hts hown hml hP hK hD hS hA hl hE hN hAN
  have hl : lv_has ls 7 [(0, .ref x0), (1, .int bi), (2, .long x), (4, .long y)] := hl
  have hown : s.vm.findClass R_M = some m.cls := hown
  have ht : ∀ w ∈ BIG, w.before _ s = true := fun w h => hts w (List.mem_cons_of_mem _ h)
  refine lv_aload_n hx hb d_M_run_0 rfl (lv_at hl 0 rfl) ?_
  refine lv_iload_n hx hb d_M_run_1 rfl (lv_at hl 1 rfl) ?_
  rw [hQ]; exact passT (runT (As := [.int bi]) (rest := []) ⟨hx, hb, hml, hown, hts⟩ (c_M_findT l D cI cL cO N t0 mi hl0 x0 lim a0 k0 u0 v0 t1 gen wrg rns als d0 sz mo fr bi hbad H.size) (cwV 1 hts (gBIG (m4 k_ml_M_64 k_im_M_find k_sel_M_find k_ini_M) k_co_M_find) rfl rfl rfl (by decide +kernel) ⟨Nat.le_of_ble_eq_true rfl, Nat.le_of_ble_eq_true rfl⟩) ⟨PX.bl, va_recv hK.1 hP (ci := 3) (q0 := 0) rfl rfl, PX.pre hP hD hK hE hS hAN hN⟩ rfl rfl hl.1 rfl (lv_room (Nat.le_of_ble_eq_true rfl)) d_M_run_2 ⟨Nat.le_of_ble_eq_true rfl, Nat.le_of_ble_eq_true rfl⟩) rfl rfl rfl hlocks hmt hS (A_in hD hS hA) (fun H1 h1 => by obtain ⟨u, h2, h3⟩ := h1; exact ⟨u, h2, h3.weaken (fun _ q _ h => A_in hD hS hA q.1 h)⟩)

abbrev w_M_register : List Cond := .code y_M_register b_M_register 2 (some .long) :: BIG
set_option maxHeartbeats 1000000 in
set_option maxRecDepth 100000 in
theorem c_M_register (l : Launch) (D : va_G) (cI cL cO : ClassId) (x0 : Nat) (lim : Int32) (a0 : Nat) (k0 : Nat) (u0 : Nat) (v0 : Nat) (t1 : Nat) (gen : Int32) (wrg : Int32) (rns : Int32) (als : Int32) (u1 : Nat) (u2 : Nat) (hg : Int32) (su : Int32) (en : Int32) (bb : Int32) (g : FL) (i : Int32) (v1 : ¬ isReg i = 0) : CRl l y_M_register w_M_register ({ frames := 2, cells := 0, slots := 0, locals := 41 }) D cI cL cO [.ref x0, .int i] ((wX x0 lim a0 k0 u0 v0 t1 gen wrg rns als) ++ ((wU u0 u1 u2 hg su en bb) ++ (wL4 cL u1 g))) (ldF g i) := by
  refine ofR (cc := b_M_register) (maxL := 2) (ret := (some .long)) (by decide) rfl (Nat.le_of_ble_eq_true rfl) ?_
  intro p e s m below meth c ls Q hQ hx hb hr hlocks hts hown hml hP hK hl
  have hl : lv_has ls 2 [(0, .ref x0), (1, .int i)] := hl
  have hown : s.vm.findClass R_M = some m.cls := hown
  have ht : ∀ w ∈ BIG, w.before _ s = true := fun w h => hts w (List.mem_cons_of_mem _ h)
  refine lv_iload_n hx hb d_M_register_0 rfl (lv_at hl 1 rfl) ?_
  refine goRi (va_runS (As := [.int i]) (rest := []) ⟨hx, hb, hml, hown, hts⟩ (c_M_isRegister l D cI cL cO i) (cwS 1 hts (gBIG (m3 k_ml_M_68 k_st_M_isRegister k_ini_M) k_co_M_isRegister) rfl rfl rfl (by decide +kernel) ⟨Nat.le_of_ble_eq_true rfl, Nat.le_of_ble_eq_true rfl⟩) ⟨PR.bl, PR.pre P_nil hK⟩ rfl rfl hl.1 rfl (lv_room (Nat.le_of_ble_eq_true rfl)) d_M_register_1 ⟨Nat.le_of_ble_eq_true rfl, Nat.le_of_ble_eq_true rfl⟩) ?_
  refine lv_if_ne (tgt := 17) hx hb d_M_register_4 (by decide) (fun c_4 => ?_) (fun c_4 => ?_)
  · refine lv_aload_n hx hb d_M_register_17 rfl (lv_at hl 0 rfl) ?_
    refine va_get (ci := 3) (v := .ref u0) (C := R_M) (T := T_M) (N := 10) hx hb ht in_M hown hK.1 hP 0 rfl rfl 3 (by decide) (ht _ k_fl_M_26) (fun _ h9 => h9) rfl d_M_register_18 ?_
    refine lv_iload_n hx hb d_M_register_21 rfl (lv_at hl 1 rfl) ?_
    refine goRl (va_runVN (As := [.int i]) (rest := []) ⟨hx, hb, hml, hown, hts⟩ (c_U_load l D cI cL cO u0 u1 u2 hg su en bb g i) ⟨va_cnB 1 hts (gB0 k_co_U_load) rfl rfl rfl (hK.2 _ n_ml_M_167) (ht _ k_ini_U) (by decide +kernel) ⟨Nat.le_of_ble_eq_true rfl, Nat.le_of_ble_eq_true rfl⟩, ht _ k_im_U_load, ht _ k_sel_U_load⟩ ⟨PR.bl, va_recv hK.1 (P_app.mpr ⟨(P_app.mp (P_app.mp hP).2).1, (P_app.mp (P_app.mp hP).2).2⟩) (ci := 2) (q0 := 0) rfl rfl, PR.pre (P_app.mpr ⟨(P_app.mp (P_app.mp hP).2).1, (P_app.mp (P_app.mp hP).2).2⟩) hK⟩ rfl rfl hl.1 rfl (lv_room (Nat.le_of_ble_eq_true rfl)) d_M_register_22 ⟨Nat.le_of_ble_eq_true rfl, Nat.le_of_ble_eq_true rfl⟩) ?_
    rw [hQ]; exact retRl hx hb hr hlocks rfl d_M_register_25
  · exact absurd c_4 v1

set_option maxHeartbeats 1000000 in
set_option maxRecDepth 100000 in
theorem c_M_registerX (l : Launch) (D : va_G) (cI cL cO : ClassId) (N t0 mi : Nat) (hl0 : l.stackTraces = false) (x0 : Nat) (lim : Int32) (a0 : Nat) (k0 : Nat) (u0 : Nat) (v0 : Nat) (t1 : Nat) (gen : Int32) (wrg : Int32) (rns : Int32) (als : Int32) (fr : va_W) (i : Int32) (v1 : isReg i = 0) : CT l y_M_register w_M_register ({ frames := 6, cells := 1, slots := 6, locals := 82 }) D cI cL cO N t0 mi [.ref x0, .int i] ((wX x0 lim a0 k0 u0 v0 t1 gen wrg rns als) ++ fr) "java/lang/IndexOutOfBoundsException" (fun u : Unit => ((wX x0 lim a0 k0 u0 v0 t1 gen wrg rns als) ++ fr)) 1 6 := by
  refine ofT (cc := b_M_register) (maxL := 2) (ret := (some .long)) (by decide) rfl (Nat.le_of_ble_eq_true rfl) ?_
  intro p e s m below meth c A ls H Q hQ hx hb hr hlocks hmt hts hown hml hP hK hD hS hA hl hE hN hAN
  have hl : lv_has ls 2 [(0, .ref x0), (1, .int i)] := hl
  have hown : s.vm.findClass R_M = some m.cls := hown
  have ht : ∀ w ∈ BIG, w.before _ s = true := fun w h => hts w (List.mem_cons_of_mem _ h)
  refine lv_iload_n hx hb d_M_register_0 rfl (lv_at hl 1 rfl) ?_
  refine goRi (va_runS (As := [.int i]) (rest := []) ⟨hx, hb, hml, hown, hts⟩ (c_M_isRegister l D cI cL cO i) (cwS 1 hts (gBIG (m3 k_ml_M_68 k_st_M_isRegister k_ini_M) k_co_M_isRegister) rfl rfl rfl (by decide +kernel) ⟨Nat.le_of_ble_eq_true rfl, Nat.le_of_ble_eq_true rfl⟩) ⟨PR.bl, PR.pre P_nil hK⟩ rfl rfl hl.1 rfl (lv_room (Nat.le_of_ble_eq_true rfl)) d_M_register_1 ⟨Nat.le_of_ble_eq_true rfl, Nat.le_of_ble_eq_true rfl⟩) ?_
  refine lv_if_ne (tgt := 17) hx hb d_M_register_4 (by decide) (fun c_4 => ?_) (fun c_4 => ?_)
  · exact absurd v1 c_4
  · rw [hQ]; exact w_throw (X := "java/lang/IndexOutOfBoundsException") (tx := "no such register") (ic := 166) (ik := 162) (is := 164) (N := N) hx hb hl0 hlocks hown th4 kx4_X ht hE.1 (by decide) kx1_X kx2_X kx3_X hmt (hl.1.trans hml.symm) hS hAN hN d_M_register_7 d_M_register_10 d_M_register_11 d_M_register_13 d_M_register_16 (Nat.le_of_ble_eq_true rfl) (Nat.le_of_ble_eq_true rfl) (Nat.le_of_ble_eq_true rfl) (Nat.le_of_ble_eq_true rfl) (fun H1 up => ⟨(), P_up hP up, hD⟩)

def edM (w en bb : Int32) : Int32 := if w = 0 then en else if bb = 0 then 0 else 1
abbrev w_M_ended : List Cond := .code y_M_ended b_M_ended 2 (some .int) :: BIG
set_option maxHeartbeats 1000000 in
set_option maxRecDepth 100000 in
theorem c_M_ended (l : Launch) (D : va_G) (cI cL cO : ClassId) (x0 : Nat) (lim : Int32) (a0 : Nat) (k0 : Nat) (u0 : Nat) (v0 : Nat) (t1 : Nat) (gen : Int32) (wrg : Int32) (rns : Int32) (als : Int32) (u1 : Nat) (u2 : Nat) (hg : Int32) (su : Int32) (en : Int32) (bb : Int32) (w : Int32) (v1 : w = 0 ∨ w = 1) : CRi l y_M_ended w_M_ended ({ frames := 0, cells := 0, slots := 0, locals := 0 }) D cI cL cO [.ref x0, .int w] ((wX x0 lim a0 k0 u0 v0 t1 gen wrg rns als) ++ (wU u0 u1 u2 hg su en bb)) (edM w en bb) := by
  refine ofR (cc := b_M_ended) (maxL := 2) (ret := (some .int)) (by decide) rfl (Nat.le_of_ble_eq_true rfl) ?_
  intro p e s m below meth c ls Q hQ hx hb hr hlocks hts hown hml hP hK hl
  have hl : lv_has ls 2 [(0, .ref x0), (1, .int w)] := hl
  have hown : s.vm.findClass R_M = some m.cls := hown
  have ht : ∀ w ∈ BIG, w.before _ s = true := fun w h => hts w (List.mem_cons_of_mem _ h)
  refine lv_iload_n hx hb d_M_ended_0 rfl (lv_at hl 1 rfl) ?_
  by_cases c_1_0 : w = 0
  · refine lv_lookup (off := 27) (tgt := 28) hx hb d_M_ended_1 (by decide) (by rw [c_1_0] <;> rfl) (by decide) ?_
    refine lv_aload_n hx hb d_M_ended_28 rfl (lv_at hl 0 rfl) ?_
    refine va_get (ci := 3) (v := .ref u0) (C := R_M) (T := T_M) (N := 10) hx hb ht in_M hown hK.1 hP 0 rfl rfl 3 (by decide) (ht _ k_fl_M_26) (fun _ h9 => h9) rfl d_M_ended_29 ?_
    refine va_getN (ci := 2) (v := .int en) (C := R_U) (T := T_U) (N := 6) hx hb ht in_U hown hK.1 hP 1 rfl rfl 4 (by decide) (va_Nw.use rfl (hK.2 _ n_fl_M_171)) (fun _ h9 => h9) rfl d_M_ended_32 ?_
    rw [hQ]; exact retRi hx hb hr hlocks (by first | (simp only [edM, if_pos c_1_0]; done) | simp [edM, c_1_0]) d_M_ended_35
  by_cases c_1_1 : w = 1
  · refine lv_lookup (off := 35) (tgt := 36) hx hb d_M_ended_1 (by decide) (by rw [c_1_1] <;> rfl) (by decide) ?_
    refine lv_aload_n hx hb d_M_ended_36 rfl (lv_at hl 0 rfl) ?_
    refine va_get (ci := 3) (v := .ref u0) (C := R_M) (T := T_M) (N := 10) hx hb ht in_M hown hK.1 hP 0 rfl rfl 3 (by decide) (ht _ k_fl_M_26) (fun _ h9 => h9) rfl d_M_ended_37 ?_
    refine va_getN (ci := 2) (v := .int bb) (C := R_U) (T := T_U) (N := 6) hx hb ht in_U hown hK.1 hP 1 rfl rfl 5 (by decide) (va_Nw.use rfl (hK.2 _ n_fl_M_174)) (fun _ h9 => h9) rfl d_M_ended_40 ?_
    refine lv_if_eq (tgt := 50) hx hb d_M_ended_43 (by decide) (fun c_43 => ?_) (fun c_43 => ?_)
    · refine lv_iconst (v := 0) hx hb d_M_ended_50 (by decide) ?_
      rw [hQ]; exact retRi hx hb hr hlocks (by first | (simp only [edM, if_neg c_1_0, if_pos c_1_1, if_pos c_43]; done) | simp [edM, c_1_0, c_1_1, c_43]) d_M_ended_51
    · refine lv_iconst (v := 1) hx hb d_M_ended_46 (by decide) ?_
      refine lv_goto (tgt := 51) hx hb d_M_ended_47 (by decide) ?_
      rw [hQ]; exact retRi hx hb hr hlocks (by first | (simp only [edM, if_neg c_1_0, if_pos c_1_1, if_neg c_43]; done) | simp [edM, c_1_0, c_1_1, c_43]) d_M_ended_51
  exact (v1.elim c_1_0 c_1_1).elim

set_option maxHeartbeats 1000000 in
set_option maxRecDepth 100000 in
theorem c_M_endedX (l : Launch) (D : va_G) (cI cL cO : ClassId) (N t0 mi : Nat) (hl0 : l.stackTraces = false) (x0 : Nat) (lim : Int32) (a0 : Nat) (k0 : Nat) (u0 : Nat) (v0 : Nat) (t1 : Nat) (gen : Int32) (wrg : Int32) (rns : Int32) (als : Int32) (fr : va_W) (w : Int32) (v1 : ¬ (w = 0 ∨ w = 1)) : CT l y_M_ended w_M_ended ({ frames := 6, cells := 1, slots := 6, locals := 82 }) D cI cL cO N t0 mi [.ref x0, .int w] ((wX x0 lim a0 k0 u0 v0 t1 gen wrg rns als) ++ fr) "java/lang/IndexOutOfBoundsException" (fun u : Unit => ((wX x0 lim a0 k0 u0 v0 t1 gen wrg rns als) ++ fr)) 1 6 := by
  refine ofT (cc := b_M_ended) (maxL := 2) (ret := (some .int)) (by decide) rfl (Nat.le_of_ble_eq_true rfl) ?_
  intro p e s m below meth c A ls H Q hQ hx hb hr hlocks hmt hts hown hml hP hK hD hS hA hl hE hN hAN
  have hl : lv_has ls 2 [(0, .ref x0), (1, .int w)] := hl
  have hown : s.vm.findClass R_M = some m.cls := hown
  have ht : ∀ w ∈ BIG, w.before _ s = true := fun w h => hts w (List.mem_cons_of_mem _ h)
  refine lv_iload_n hx hb d_M_ended_0 rfl (lv_at hl 1 rfl) ?_
  by_cases c_1_0 : w = 0
  · exact absurd (Or.inl c_1_0) v1
  by_cases c_1_1 : w = 1
  · exact absurd (Or.inr c_1_1) v1
  refine lv_lookup (off := 51) (tgt := 52) hx hb d_M_ended_1 (by decide) (by rw [lv_osw c_1_0 (by decide), lv_osw c_1_1 (by decide)] <;> rfl) (by decide) ?_
  rw [hQ]; exact w_throw (X := "java/lang/IndexOutOfBoundsException") (tx := "no such what") (ic := 166) (ik := 162) (is := 141) (N := N) hx hb hl0 hlocks hown th4 kx4_X ht hE.1 (by decide) kx1_X kx2_X kx3_X hmt (hl.1.trans hml.symm) hS hAN hN d_M_ended_52 d_M_ended_55 d_M_ended_56 d_M_ended_58 d_M_ended_61 (Nat.le_of_ble_eq_true rfl) (Nat.le_of_ble_eq_true rfl) (Nat.le_of_ble_eq_true rfl) (Nat.le_of_ble_eq_true rfl) (fun H1 up => ⟨(), P_up hP up, hD⟩)

theorem did01 (g g2 : FL) (sp sp2 en en2 : Int32) : ∀ (n : Nat) (i : Int32), didL g g2 sp sp2 en en2 n i = 0 ∨ didL g g2 sp sp2 en en2 n i = 1 := by
  intro n
  induction n with
  | zero => intro i; exact Or.inl rfl
  | succ n ih =>
    intro i
    unfold didL
    split
    · split
      · split
        · exact Or.inr rfl
        · exact Or.inl rfl
      · exact Or.inl rfl
    · split
      · exact ih _
      · exact Or.inl rfl
theorem nz_did (g g2 : FL) (sp sp2 en en2 : Int32) (n : Nat) (i : Int32) : narrow .boolean (.int (didL g g2 sp sp2 en en2 n i)) = .int (didL g g2 sp sp2 en en2 n i) := by
  rcases did01 g g2 sp sp2 en en2 n i with h | h <;> rw [h] <;> rfl
def smM (o f ee b : Fn) (ic bc : Int32) (x y : Int64) (pl : FL) : Int32 := didL (roF o f ee ic x y).1 (byF b bc x y pl).1 (roF o f ee ic x y).2.1 (byF b bc x y pl).2.2.1 (roF o f ee ic x y).2.2 (byF b bc x y pl).2.2.2 5 0
abbrev w_M_same : List Cond := .code y_M_same b_M_same 7 (some .boolean) :: BIG
set_option maxHeartbeats 1000000 in
set_option maxRecDepth 100000 in
theorem c_M_same (l : Launch) (D : va_G) (cI cL cO : ClassId) (x0 : Nat) (lim : Int32) (a0 : Nat) (k0 : Nat) (u0 : Nat) (v0 : Nat) (t1 : Nat) (gen : Int32) (wrg : Int32) (rns : Int32) (als : Int32) (d0 : Nat) (sz : Int32) (mo : Int32) (cap : Nat) (rf : Nat → Option Nat) (h0 : Nat) (q1 : Nat) (q2 : Nat) (q3 : Nat) (q4 : Nat) (q5 : Nat) (o : Fn) (f : Fn) (ee : Fn) (t : Fn) (b : Fn) (ic : Int32) (bc : Int32) (sa : Int32) (gn : Int32) (k1 : Nat) (dd : Fn) (v1 : Nat) (v2 : Nat) (hg1 : Int32) (su1 : Int32) (en1 : Int32) (bb1 : Int32) (g1 : FL) (t2 : Nat) (t3 : Nat) (hg2 : Int32) (su2 : Int32) (en2 : Int32) (bb2 : Int32) (g2 : FL) (pl2 : FL) (fr : va_W) (bi : Int32) (x : Int64) (y : Int64) (hi0 : ¬ bi < 0) (hi1 : bi < sz) (hi2 : vp_in bi cap) (hi3 : rf bi.toNatClampNeg = some h0) (hic : ¬ ic < 0) (w1 : ¬ sa = 0) (w2 : vdF b bc = 0) : CMi l y_M_same w_M_same ({ frames := 6, cells := 0, slots := 0, locals := 135 }) D cI cL cO [.ref x0, .int bi, .long x, .long y] ((wX x0 lim a0 k0 u0 v0 t1 gen wrg rns als) ++ ((wH a0 d0 sz mo) ++ ((wR cO d0 cap rf) ++ ((wB cI h0 q1 q2 q3 q4 q5 o f ee t b ic bc sa gn) ++ ((wK k0 k1) ++ ((wI3 cI k1 dd) ++ ((wU v0 v1 v2 hg1 su1 en1 bb1) ++ ((wL4 cL v1 g1) ++ ((wU t1 t2 t3 hg2 su2 en2 bb2) ++ ((wL4 cL t2 g2) ++ ((wL4 cL t3 pl2) ++ fr))))))))))) (fun (r : Int32) (u : Fn × Int32 × Int32 × Int32 × Int32 × FL × Int32 × Int32 × Int32 × Int32 × FL × FL) => r = smM o f ee b ic bc x y pl2) (fun u : Fn × Int32 × Int32 × Int32 × Int32 × FL × Int32 × Int32 × Int32 × Int32 × FL × FL => ((wX x0 lim a0 k0 u0 v0 t1 gen wrg rns als) ++ ((wH a0 d0 sz mo) ++ ((wR cO d0 cap rf) ++ ((wB cI h0 q1 q2 q3 q4 q5 o f ee t b ic bc sa gn) ++ ((wK k0 k1) ++ ((wI3 cI k1 u.1) ++ ((wU v0 v1 v2 u.2.1 u.2.2.1 u.2.2.2.1 u.2.2.2.2.1) ++ ((wL4 cL v1 u.2.2.2.2.2.1) ++ ((wU t1 t2 t3 u.2.2.2.2.2.2.1 u.2.2.2.2.2.2.2.1 u.2.2.2.2.2.2.2.2.1 u.2.2.2.2.2.2.2.2.2.1) ++ ((wL4 cL t2 u.2.2.2.2.2.2.2.2.2.2.1) ++ ((wL4 cL t3 u.2.2.2.2.2.2.2.2.2.2.2) ++ fr)))))))))))) 0 0 := by
  refine ofMi (cc := b_M_same) (maxL := 7) (ret := (some .boolean)) (by decide) rfl (Nat.le_of_ble_eq_true rfl) ?_
  intro p e s m below meth c A ls H Q hQ hx hb hr hlocks hin hts hown hml hP hK hD hS hA hl
  have hl : lv_has ls 7 [(0, .ref x0), (1, .int bi), (2, .long x), (4, .long y)] := hl
  have hown : s.vm.findClass R_M = some m.cls := hown
  have ht : ∀ w ∈ BIG, w.before _ s = true := fun w h => hts w (List.mem_cons_of_mem _ h)
  refine lv_aload_n hx hb d_M_same_0 rfl (lv_at hl 0 rfl) ?_
  refine lv_iload_n hx hb d_M_same_1 rfl (lv_at hl 1 rfl) ?_
  refine goRv (va_runV (As := [.int bi]) (rest := []) ⟨hx, hb, hml, hown, hts⟩ (c_M_find l D cI cL cO x0 lim a0 k0 u0 v0 t1 gen wrg rns als d0 sz mo cap rf h0 q1 q2 q3 q4 q5 o f ee t b ic bc sa gn bi hi0 hi1 hi2 hi3) (cwV 1 hts (gBIG (m4 k_ml_M_64 k_im_M_find k_sel_M_find k_ini_M) k_co_M_find) rfl rfl rfl (by decide +kernel) ⟨Nat.le_of_ble_eq_true rfl, Nat.le_of_ble_eq_true rfl⟩) ⟨PR.bl, va_recv hK.1 (P_app.mpr ⟨(P_app.mp hP).1, (P_app.mpr ⟨(P_app.mp (P_app.mp hP).2).1, (P_app.mpr ⟨(P_app.mp (P_app.mp (P_app.mp hP).2).2).1, (P_app.mp (P_app.mp (P_app.mp (P_app.mp hP).2).2).2).1⟩)⟩)⟩) (ci := 3) (q0 := 0) rfl rfl, PR.pre (P_app.mpr ⟨(P_app.mp hP).1, (P_app.mpr ⟨(P_app.mp (P_app.mp hP).2).1, (P_app.mpr ⟨(P_app.mp (P_app.mp (P_app.mp hP).2).2).1, (P_app.mp (P_app.mp (P_app.mp (P_app.mp hP).2).2).2).1⟩)⟩)⟩) hK⟩ rfl rfl hl.1 rfl (lv_room (Nat.le_of_ble_eq_true rfl)) d_M_same_2 ⟨Nat.le_of_ble_eq_true rfl, Nat.le_of_ble_eq_true rfl⟩) ?_
  refine lv_astore (lv' := [(6, .ref h0), (0, .ref x0), (1, .int bi), (2, .long x), (4, .long y)]) hx hb d_M_same_5 hl (by decide) rfl (fun ls hl => ?_)
  refine lv_aload hx hb d_M_same_7 (lv_at hl 0 rfl) ?_
  refine va_getN (ci := 0) (v := .int sa) (C := R_B) (T := T_B) (N := 9) hx hb ht in_B hown hK.1 hP 3 rfl rfl 7 (by decide) (va_Nw.use rfl (hK.2 _ n_fl_M_100)) (fun _ h9 => h9) rfl d_M_same_9 ?_
  refine lv_if_eq (tgt := 27) hx hb d_M_same_12 (by decide) (fun c_12 => ?_) (fun c_12 => ?_)
  · exact absurd c_12 w1
  · refine lv_aload_n hx hb d_M_same_15 rfl (lv_at hl 1 rfl) ?_
    refine va_get (ci := 3) (v := .ref k0) (C := R_M) (T := T_M) (N := 10) hx hb ht in_M hown hK.1 hP 0 rfl rfl 2 (by decide) (ht _ k_fl_M_19) (fun _ h9 => h9) rfl d_M_same_16 ?_
    refine lv_aload hx hb d_M_same_19 (lv_at hl 0 rfl) ?_
    have hP := P_sw3 hP
    have hD := D_sw3 hD
    have hP := P_sw2 hP
    have hD := D_sw2 hD
    have hP := P_sw1 hP
    have hD := D_sw1 hD
    have hP := P_sw hP
    have hD := D_sw hD
    have hP := P_sw4 hP
    have hD := D_sw4 hD
    have hP := P_sw3 hP
    have hD := D_sw3 hD
    have hP := P_sw2 hP
    have hD := D_sw2 hD
    have hP := P_sw1 hP
    have hD := D_sw1 hD
    have hP := P_sw4 hP
    have hD := D_sw4 hD
    have hP := P_sw3 hP
    have hD := D_sw3 hD
    have hP := P_sw2 hP
    have hD := D_sw2 hD
    refine goMi (va_runVN (As := [.ref h0]) (rest := []) ⟨hx, hb, hml, hown, hts⟩ (c_K_verdictOn l D cI cL cO k0 k1 dd h0 q1 q2 q3 q4 q5 o f ee t b ic bc sa gn ((wX x0 lim a0 k0 u0 v0 t1 gen wrg rns als) ++ ((wH a0 d0 sz mo) ++ ((wR cO d0 cap rf) ++ ((wU v0 v1 v2 hg1 su1 en1 bb1) ++ ((wL4 cL v1 g1) ++ ((wU t1 t2 t3 hg2 su2 en2 bb2) ++ ((wL4 cL t2 g2) ++ ((wL4 cL t3 pl2) ++ fr)))))))) H.size) ⟨va_cnB 1 hts (gB0 k_co_K_verdictOn) rfl rfl rfl (hK.2 _ n_ml_M_130) (ht _ k_ini_K) (by decide +kernel) ⟨Nat.le_of_ble_eq_true rfl, Nat.le_of_ble_eq_true rfl⟩, ht _ k_im_K_verdictOn, ht _ k_sel_K_verdictOn⟩ ⟨PM.bl, va_recv hK.1 hP (ci := 1) (q0 := 0) rfl rfl, PM.pre hP hD hK⟩ rfl rfl hl.1 rfl (lv_room (Nat.le_of_ble_eq_true rfl)) d_M_same_21 ⟨Nat.le_of_ble_eq_true rfl, Nat.le_of_ble_eq_true rfl⟩) hD hS hA (fun r_21 u H locs hw hP hD hS => ?_)
    obtain ⟨dd_21, rfl⟩ : ∃ z, z = u := ⟨_, rfl⟩
    have e_21 : r_21 = vdF b bc ∧ dd_21 = (vcF b bc).2 := hw
    have hP : va_P D vwCl ((wK k0 k1) ++ ((wI3 cI k1 dd_21) ++ ((wB cI h0 q1 q2 q3 q4 q5 o f ee t b ic bc sa gn) ++ ((wX x0 lim a0 k0 u0 v0 t1 gen wrg rns als) ++ ((wH a0 d0 sz mo) ++ ((wR cO d0 cap rf) ++ ((wU v0 v1 v2 hg1 su1 en1 bb1) ++ ((wL4 cL v1 g1) ++ ((wU t1 t2 t3 hg2 su2 en2 bb2) ++ ((wL4 cL t2 g2) ++ ((wL4 cL t3 pl2) ++ fr))))))))))) H := hP
    have hD : va_D A ((wK k0 k1) ++ ((wI3 cI k1 dd_21) ++ ((wB cI h0 q1 q2 q3 q4 q5 o f ee t b ic bc sa gn) ++ ((wX x0 lim a0 k0 u0 v0 t1 gen wrg rns als) ++ ((wH a0 d0 sz mo) ++ ((wR cO d0 cap rf) ++ ((wU v0 v1 v2 hg1 su1 en1 bb1) ++ ((wL4 cL v1 g1) ++ ((wU t1 t2 t3 hg2 su2 en2 bb2) ++ ((wL4 cL t2 g2) ++ ((wL4 cL t3 pl2) ++ fr))))))))))) := hD
    have hP := P_sw1 hP
    have hD := D_sw1 hD
    have hP := P_sw2 hP
    have hD := D_sw2 hD
    have hP := P_sw3 hP
    have hD := D_sw3 hD
    have hP := P_sw4 hP
    have hD := D_sw4 hD
    have hP := P_sw hP
    have hD := D_sw hD
    have hP := P_sw1 hP
    have hD := D_sw1 hD
    have hP := P_sw2 hP
    have hD := D_sw2 hD
    have hP := P_sw3 hP
    have hD := D_sw3 hD
    have hP := P_sw hP
    have hD := D_sw hD
    have hP := P_sw1 hP
    have hD := D_sw1 hD
    have hP := P_sw2 hP
    have hD := D_sw2 hD
    have hP : va_P D vwCl ((wX x0 lim a0 k0 u0 v0 t1 gen wrg rns als) ++ ((wH a0 d0 sz mo) ++ ((wR cO d0 cap rf) ++ ((wB cI h0 q1 q2 q3 q4 q5 o f ee t b ic bc sa gn) ++ ((wK k0 k1) ++ ((wI3 cI k1 dd_21) ++ ((wU v0 v1 v2 hg1 su1 en1 bb1) ++ ((wL4 cL v1 g1) ++ ((wU t1 t2 t3 hg2 su2 en2 bb2) ++ ((wL4 cL t2 g2) ++ ((wL4 cL t3 pl2) ++ fr))))))))))) H := hP
    have hD : va_D A ((wX x0 lim a0 k0 u0 v0 t1 gen wrg rns als) ++ ((wH a0 d0 sz mo) ++ ((wR cO d0 cap rf) ++ ((wB cI h0 q1 q2 q3 q4 q5 o f ee t b ic bc sa gn) ++ ((wK k0 k1) ++ ((wI3 cI k1 dd_21) ++ ((wU v0 v1 v2 hg1 su1 en1 bb1) ++ ((wL4 cL v1 g1) ++ ((wU t1 t2 t3 hg2 su2 en2 bb2) ++ ((wL4 cL t2 g2) ++ ((wL4 cL t3 pl2) ++ fr))))))))))) := hD
    refine lv_if_eq (tgt := 37) hx hb d_M_same_24 (by decide) (fun c_24 => ?_) (fun c_24 => ?_)
    · refine lv_aload_n hx hb d_M_same_37 rfl (lv_at hl 1 rfl) ?_
      refine va_get (ci := 3) (v := .ref v0) (C := R_M) (T := T_M) (N := 10) hx hb ht in_M hown hK.1 hP 0 rfl rfl 4 (by decide) (ht _ k_fl_M_30) (fun _ h9 => h9) rfl d_M_same_38 ?_
      refine lv_aload hx hb d_M_same_41 (lv_at hl 0 rfl) ?_
      refine lv_lload_n hx hb d_M_same_43 rfl (lv_at hl 3 rfl) ?_
      refine lv_lload hx hb d_M_same_44 (lv_at hl 4 rfl) ?_
      have hP := P_sw5 hP
      have hD := D_sw5 hD
      have hP := P_sw4 hP
      have hD := D_sw4 hD
      have hP := P_sw3 hP
      have hD := D_sw3 hD
      have hP := P_sw2 hP
      have hD := D_sw2 hD
      have hP := P_sw1 hP
      have hD := D_sw1 hD
      have hP := P_sw hP
      have hD := D_sw hD
      have hP := P_sw6 hP
      have hD := D_sw6 hD
      have hP := P_sw5 hP
      have hD := D_sw5 hD
      have hP := P_sw4 hP
      have hD := D_sw4 hD
      have hP := P_sw3 hP
      have hD := D_sw3 hD
      have hP := P_sw2 hP
      have hD := D_sw2 hD
      have hP := P_sw1 hP
      have hD := D_sw1 hD
      have hP := P_sw4 hP
      have hD := D_sw4 hD
      have hP := P_sw3 hP
      have hD := D_sw3 hD
      have hP := P_sw2 hP
      have hD := D_sw2 hD
      refine goMv (va_runVN (As := [.ref h0, .long x, .long y]) (rest := []) ⟨hx, hb, hml, hown, hts⟩ (c_U_followRows l D cI cL cO v0 v1 v2 hg1 su1 en1 bb1 g1 h0 q1 q2 q3 q4 q5 o f ee t b ic bc sa gn ((wX x0 lim a0 k0 u0 v0 t1 gen wrg rns als) ++ ((wH a0 d0 sz mo) ++ ((wR cO d0 cap rf) ++ ((wK k0 k1) ++ ((wI3 cI k1 dd_21) ++ ((wU t1 t2 t3 hg2 su2 en2 bb2) ++ ((wL4 cL t2 g2) ++ ((wL4 cL t3 pl2) ++ fr)))))))) x y hic H.size) ⟨va_cnB 3 hts (gB0 k_co_U_followRows) rfl rfl rfl (hK.2 _ n_ml_M_150) (ht _ k_ini_U) (by decide +kernel) ⟨Nat.le_of_ble_eq_true rfl, Nat.le_of_ble_eq_true rfl⟩, ht _ k_im_U_followRows, ht _ k_sel_U_followRows⟩ ⟨PM.bl, va_recv hK.1 hP (ci := 2) (q0 := 0) rfl rfl, PM.pre hP hD hK⟩ rfl rfl hl.1 rfl (lv_room (Nat.le_of_ble_eq_true rfl)) d_M_same_46 ⟨Nat.le_of_ble_eq_true rfl, Nat.le_of_ble_eq_true rfl⟩) hD hS hA (fun u H locs hw hP hD hS => ?_)
      obtain ⟨g_46, hg_46, sp_46, en_46, bb_46⟩ := u
      have e_46 : (g_46, sp_46, en_46) = roF o f ee ic x y ∧ hg_46 = 0 ∧ bb_46 = 0 := hw
      have hP : va_P D vwCl ((wU v0 v1 v2 hg_46 sp_46 en_46 bb_46) ++ ((wL4 cL v1 g_46) ++ ((wB cI h0 q1 q2 q3 q4 q5 o f ee t b ic bc sa gn) ++ ((wX x0 lim a0 k0 u0 v0 t1 gen wrg rns als) ++ ((wH a0 d0 sz mo) ++ ((wR cO d0 cap rf) ++ ((wK k0 k1) ++ ((wI3 cI k1 dd_21) ++ ((wU t1 t2 t3 hg2 su2 en2 bb2) ++ ((wL4 cL t2 g2) ++ ((wL4 cL t3 pl2) ++ fr))))))))))) H := hP
      have hD : va_D A ((wU v0 v1 v2 hg_46 sp_46 en_46 bb_46) ++ ((wL4 cL v1 g_46) ++ ((wB cI h0 q1 q2 q3 q4 q5 o f ee t b ic bc sa gn) ++ ((wX x0 lim a0 k0 u0 v0 t1 gen wrg rns als) ++ ((wH a0 d0 sz mo) ++ ((wR cO d0 cap rf) ++ ((wK k0 k1) ++ ((wI3 cI k1 dd_21) ++ ((wU t1 t2 t3 hg2 su2 en2 bb2) ++ ((wL4 cL t2 g2) ++ ((wL4 cL t3 pl2) ++ fr))))))))))) := hD
      have hP := P_sw1 hP
      have hD := D_sw1 hD
      have hP := P_sw2 hP
      have hD := D_sw2 hD
      have hP := P_sw3 hP
      have hD := D_sw3 hD
      have hP := P_sw4 hP
      have hD := D_sw4 hD
      have hP := P_sw5 hP
      have hD := D_sw5 hD
      have hP := P_sw6 hP
      have hD := D_sw6 hD
      have hP := P_sw hP
      have hD := D_sw hD
      have hP := P_sw1 hP
      have hD := D_sw1 hD
      have hP := P_sw2 hP
      have hD := D_sw2 hD
      have hP := P_sw3 hP
      have hD := D_sw3 hD
      have hP := P_sw4 hP
      have hD := D_sw4 hD
      have hP := P_sw5 hP
      have hD := D_sw5 hD
      have hP := P_sw hP
      have hD := D_sw hD
      have hP := P_sw1 hP
      have hD := D_sw1 hD
      have hP := P_sw2 hP
      have hD := D_sw2 hD
      have hP : va_P D vwCl ((wX x0 lim a0 k0 u0 v0 t1 gen wrg rns als) ++ ((wH a0 d0 sz mo) ++ ((wR cO d0 cap rf) ++ ((wB cI h0 q1 q2 q3 q4 q5 o f ee t b ic bc sa gn) ++ ((wK k0 k1) ++ ((wI3 cI k1 dd_21) ++ ((wU v0 v1 v2 hg_46 sp_46 en_46 bb_46) ++ ((wL4 cL v1 g_46) ++ ((wU t1 t2 t3 hg2 su2 en2 bb2) ++ ((wL4 cL t2 g2) ++ ((wL4 cL t3 pl2) ++ fr))))))))))) H := hP
      have hD : va_D A ((wX x0 lim a0 k0 u0 v0 t1 gen wrg rns als) ++ ((wH a0 d0 sz mo) ++ ((wR cO d0 cap rf) ++ ((wB cI h0 q1 q2 q3 q4 q5 o f ee t b ic bc sa gn) ++ ((wK k0 k1) ++ ((wI3 cI k1 dd_21) ++ ((wU v0 v1 v2 hg_46 sp_46 en_46 bb_46) ++ ((wL4 cL v1 g_46) ++ ((wU t1 t2 t3 hg2 su2 en2 bb2) ++ ((wL4 cL t2 g2) ++ ((wL4 cL t3 pl2) ++ fr))))))))))) := hD
      refine lv_aload_n hx hb d_M_same_49 rfl (lv_at hl 1 rfl) ?_
      refine va_get (ci := 3) (v := .ref t1) (C := R_M) (T := T_M) (N := 10) hx hb ht in_M hown hK.1 hP 0 rfl rfl 5 (by decide) (ht _ k_fl_M_33) (fun _ h9 => h9) rfl d_M_same_50 ?_
      refine lv_aload hx hb d_M_same_53 (lv_at hl 0 rfl) ?_
      refine lv_lload_n hx hb d_M_same_55 rfl (lv_at hl 3 rfl) ?_
      refine lv_lload hx hb d_M_same_56 (lv_at hl 4 rfl) ?_
      have hP := P_sw7 hP
      have hD := D_sw7 hD
      have hP := P_sw6 hP
      have hD := D_sw6 hD
      have hP := P_sw5 hP
      have hD := D_sw5 hD
      have hP := P_sw4 hP
      have hD := D_sw4 hD
      have hP := P_sw3 hP
      have hD := D_sw3 hD
      have hP := P_sw2 hP
      have hD := D_sw2 hD
      have hP := P_sw1 hP
      have hD := D_sw1 hD
      have hP := P_sw hP
      have hD := D_sw hD
      have hP := P_sw8 hP
      have hD := D_sw8 hD
      have hP := P_sw7 hP
      have hD := D_sw7 hD
      have hP := P_sw6 hP
      have hD := D_sw6 hD
      have hP := P_sw5 hP
      have hD := D_sw5 hD
      have hP := P_sw4 hP
      have hD := D_sw4 hD
      have hP := P_sw3 hP
      have hD := D_sw3 hD
      have hP := P_sw2 hP
      have hD := D_sw2 hD
      have hP := P_sw1 hP
      have hD := D_sw1 hD
      have hP := P_sw9 hP
      have hD := D_sw9 hD
      have hP := P_sw8 hP
      have hD := D_sw8 hD
      have hP := P_sw7 hP
      have hD := D_sw7 hD
      have hP := P_sw6 hP
      have hD := D_sw6 hD
      have hP := P_sw5 hP
      have hD := D_sw5 hD
      have hP := P_sw4 hP
      have hD := D_sw4 hD
      have hP := P_sw3 hP
      have hD := D_sw3 hD
      have hP := P_sw2 hP
      have hD := D_sw2 hD
      have hP := P_sw5 hP
      have hD := D_sw5 hD
      have hP := P_sw4 hP
      have hD := D_sw4 hD
      have hP := P_sw3 hP
      have hD := D_sw3 hD
      refine goMv (va_runVN (As := [.ref h0, .long x, .long y]) (rest := []) ⟨hx, hb, hml, hown, hts⟩ (c_U_followBytes l D cI cL cO t1 t2 t3 hg2 su2 en2 bb2 g2 pl2 h0 q1 q2 q3 q4 q5 o f ee t b ic bc sa gn ((wX x0 lim a0 k0 u0 v0 t1 gen wrg rns als) ++ ((wH a0 d0 sz mo) ++ ((wR cO d0 cap rf) ++ ((wK k0 k1) ++ ((wI3 cI k1 dd_21) ++ ((wU v0 v1 v2 hg_46 sp_46 en_46 bb_46) ++ ((wL4 cL v1 g_46) ++ fr))))))) x y H.size) ⟨va_cnB 3 hts (gB0 k_co_U_followBytes) rfl rfl rfl (hK.2 _ n_ml_M_146) (ht _ k_ini_U) (by decide +kernel) ⟨Nat.le_of_ble_eq_true rfl, Nat.le_of_ble_eq_true rfl⟩, ht _ k_im_U_followBytes, ht _ k_sel_U_followBytes⟩ ⟨PM.bl, va_recv hK.1 hP (ci := 2) (q0 := 0) rfl rfl, PM.pre hP hD hK⟩ rfl rfl hl.1 rfl (lv_room (Nat.le_of_ble_eq_true rfl)) d_M_same_58 ⟨Nat.le_of_ble_eq_true rfl, Nat.le_of_ble_eq_true rfl⟩) hD hS hA (fun u H locs hw hP hD hS => ?_)
      obtain ⟨g_58, pl_58, hg_58, sp_58, en_58, bb_58⟩ := u
      have e_58 : (g_58, (pl_58, hg_58), sp_58, en_58) = byF b bc x y pl2 ∧ bb_58 = 1 := hw
      have hP : va_P D vwCl ((wU t1 t2 t3 hg_58 sp_58 en_58 bb_58) ++ ((wL4 cL t2 g_58) ++ ((wL4 cL t3 pl_58) ++ ((wB cI h0 q1 q2 q3 q4 q5 o f ee t b ic bc sa gn) ++ ((wX x0 lim a0 k0 u0 v0 t1 gen wrg rns als) ++ ((wH a0 d0 sz mo) ++ ((wR cO d0 cap rf) ++ ((wK k0 k1) ++ ((wI3 cI k1 dd_21) ++ ((wU v0 v1 v2 hg_46 sp_46 en_46 bb_46) ++ ((wL4 cL v1 g_46) ++ fr))))))))))) H := hP
      have hD : va_D A ((wU t1 t2 t3 hg_58 sp_58 en_58 bb_58) ++ ((wL4 cL t2 g_58) ++ ((wL4 cL t3 pl_58) ++ ((wB cI h0 q1 q2 q3 q4 q5 o f ee t b ic bc sa gn) ++ ((wX x0 lim a0 k0 u0 v0 t1 gen wrg rns als) ++ ((wH a0 d0 sz mo) ++ ((wR cO d0 cap rf) ++ ((wK k0 k1) ++ ((wI3 cI k1 dd_21) ++ ((wU v0 v1 v2 hg_46 sp_46 en_46 bb_46) ++ ((wL4 cL v1 g_46) ++ fr))))))))))) := hD
      have hP := P_sw2 hP
      have hD := D_sw2 hD
      have hP := P_sw3 hP
      have hD := D_sw3 hD
      have hP := P_sw4 hP
      have hD := D_sw4 hD
      have hP := P_sw5 hP
      have hD := D_sw5 hD
      have hP := P_sw6 hP
      have hD := D_sw6 hD
      have hP := P_sw7 hP
      have hD := D_sw7 hD
      have hP := P_sw8 hP
      have hD := D_sw8 hD
      have hP := P_sw9 hP
      have hD := D_sw9 hD
      have hP := P_sw1 hP
      have hD := D_sw1 hD
      have hP := P_sw2 hP
      have hD := D_sw2 hD
      have hP := P_sw3 hP
      have hD := D_sw3 hD
      have hP := P_sw4 hP
      have hD := D_sw4 hD
      have hP := P_sw5 hP
      have hD := D_sw5 hD
      have hP := P_sw6 hP
      have hD := D_sw6 hD
      have hP := P_sw7 hP
      have hD := D_sw7 hD
      have hP := P_sw8 hP
      have hD := D_sw8 hD
      have hP := P_sw hP
      have hD := D_sw hD
      have hP := P_sw1 hP
      have hD := D_sw1 hD
      have hP := P_sw2 hP
      have hD := D_sw2 hD
      have hP := P_sw3 hP
      have hD := D_sw3 hD
      have hP := P_sw4 hP
      have hD := D_sw4 hD
      have hP := P_sw5 hP
      have hD := D_sw5 hD
      have hP := P_sw6 hP
      have hD := D_sw6 hD
      have hP := P_sw7 hP
      have hD := D_sw7 hD
      have hP := P_sw hP
      have hD := D_sw hD
      have hP := P_sw1 hP
      have hD := D_sw1 hD
      have hP := P_sw2 hP
      have hD := D_sw2 hD
      have hP : va_P D vwCl ((wX x0 lim a0 k0 u0 v0 t1 gen wrg rns als) ++ ((wH a0 d0 sz mo) ++ ((wR cO d0 cap rf) ++ ((wB cI h0 q1 q2 q3 q4 q5 o f ee t b ic bc sa gn) ++ ((wK k0 k1) ++ ((wI3 cI k1 dd_21) ++ ((wU v0 v1 v2 hg_46 sp_46 en_46 bb_46) ++ ((wL4 cL v1 g_46) ++ ((wU t1 t2 t3 hg_58 sp_58 en_58 bb_58) ++ ((wL4 cL t2 g_58) ++ ((wL4 cL t3 pl_58) ++ fr))))))))))) H := hP
      have hD : va_D A ((wX x0 lim a0 k0 u0 v0 t1 gen wrg rns als) ++ ((wH a0 d0 sz mo) ++ ((wR cO d0 cap rf) ++ ((wB cI h0 q1 q2 q3 q4 q5 o f ee t b ic bc sa gn) ++ ((wK k0 k1) ++ ((wI3 cI k1 dd_21) ++ ((wU v0 v1 v2 hg_46 sp_46 en_46 bb_46) ++ ((wL4 cL v1 g_46) ++ ((wU t1 t2 t3 hg_58 sp_58 en_58 bb_58) ++ ((wL4 cL t2 g_58) ++ ((wL4 cL t3 pl_58) ++ fr))))))))))) := hD
      refine lv_aload_n hx hb d_M_same_61 rfl (lv_at hl 1 rfl) ?_
      refine va_get (ci := 3) (v := .ref v0) (C := R_M) (T := T_M) (N := 10) hx hb ht in_M hown hK.1 hP 0 rfl rfl 4 (by decide) (ht _ k_fl_M_30) (fun _ h9 => h9) rfl d_M_same_62 ?_
      refine lv_aload_n hx hb d_M_same_65 rfl (lv_at hl 1 rfl) ?_
      refine va_get (ci := 3) (v := .ref t1) (C := R_M) (T := T_M) (N := 10) hx hb ht in_M hown hK.1 hP 0 rfl rfl 5 (by decide) (ht _ k_fl_M_33) (fun _ h9 => h9) rfl d_M_same_66 ?_
      refine goRi (va_runVN (As := [.ref t1]) (rest := []) ⟨hx, hb, hml, hown, hts⟩ (c_U_didAs l D cI cL cO v0 v1 v2 hg_46 sp_46 en_46 bb_46 g_46 t1 t2 t3 hg_58 sp_58 en_58 bb_58 g_58) ⟨va_cnB 1 hts (gB0 k_co_U_didAs) rfl rfl rfl (hK.2 _ n_ml_M_180) (ht _ k_ini_U) (by decide +kernel) ⟨Nat.le_of_ble_eq_true rfl, Nat.le_of_ble_eq_true rfl⟩, ht _ k_im_U_didAs, ht _ k_sel_U_didAs⟩ ⟨PR.bl, va_recv hK.1 (P_app.mpr ⟨(P_app.mp (P_app.mp (P_app.mp (P_app.mp (P_app.mp (P_app.mp (P_app.mp hP).2).2).2).2).2).2).1, (P_app.mpr ⟨(P_app.mp (P_app.mp (P_app.mp (P_app.mp (P_app.mp (P_app.mp (P_app.mp (P_app.mp hP).2).2).2).2).2).2).2).1, (P_app.mpr ⟨(P_app.mp (P_app.mp (P_app.mp (P_app.mp (P_app.mp (P_app.mp (P_app.mp (P_app.mp (P_app.mp hP).2).2).2).2).2).2).2).2).1, (P_app.mp (P_app.mp (P_app.mp (P_app.mp (P_app.mp (P_app.mp (P_app.mp (P_app.mp (P_app.mp (P_app.mp hP).2).2).2).2).2).2).2).2).2).1⟩)⟩)⟩) (ci := 2) (q0 := 0) rfl rfl, PR.pre (P_app.mpr ⟨(P_app.mp (P_app.mp (P_app.mp (P_app.mp (P_app.mp (P_app.mp (P_app.mp hP).2).2).2).2).2).2).1, (P_app.mpr ⟨(P_app.mp (P_app.mp (P_app.mp (P_app.mp (P_app.mp (P_app.mp (P_app.mp (P_app.mp hP).2).2).2).2).2).2).2).1, (P_app.mpr ⟨(P_app.mp (P_app.mp (P_app.mp (P_app.mp (P_app.mp (P_app.mp (P_app.mp (P_app.mp (P_app.mp hP).2).2).2).2).2).2).2).2).1, (P_app.mp (P_app.mp (P_app.mp (P_app.mp (P_app.mp (P_app.mp (P_app.mp (P_app.mp (P_app.mp (P_app.mp hP).2).2).2).2).2).2).2).2).2).1⟩)⟩)⟩) hK⟩ rfl rfl hl.1 rfl (lv_room (Nat.le_of_ble_eq_true rfl)) d_M_same_69 ⟨Nat.le_of_ble_eq_true rfl, Nat.le_of_ble_eq_true rfl⟩) ?_
      rw [hQ]; exact retMz (w1 := fun u : Fn × Int32 × Int32 × Int32 × Int32 × FL × Int32 × Int32 × Int32 × Int32 × FL × FL => ((wX x0 lim a0 k0 u0 v0 t1 gen wrg rns als) ++ ((wH a0 d0 sz mo) ++ ((wR cO d0 cap rf) ++ ((wB cI h0 q1 q2 q3 q4 q5 o f ee t b ic bc sa gn) ++ ((wK k0 k1) ++ ((wI3 cI k1 u.1) ++ ((wU v0 v1 v2 u.2.1 u.2.2.1 u.2.2.2.1 u.2.2.2.2.1) ++ ((wL4 cL v1 u.2.2.2.2.2.1) ++ ((wU t1 t2 t3 u.2.2.2.2.2.2.1 u.2.2.2.2.2.2.2.1 u.2.2.2.2.2.2.2.2.1 u.2.2.2.2.2.2.2.2.2.1) ++ ((wL4 cL t2 u.2.2.2.2.2.2.2.2.2.2.1) ++ ((wL4 cL t3 u.2.2.2.2.2.2.2.2.2.2.2) ++ fr)))))))))))) (dd_21, hg_46, sp_46, en_46, bb_46, g_46, hg_58, sp_58, en_58, bb_58, g_58, pl_58) hx hb hr hlocks (nz_did _ _ _ _ _ _ _ _) hP hD hS (by obtain ⟨e1, -⟩ := e_46; obtain ⟨e2, -⟩ := e_58; simp only [smM]; rw [← e1, ← e2]) d_M_same_72
    · exact absurd (e_21.1.trans w2) c_24

set_option maxHeartbeats 1000000 in
set_option maxRecDepth 100000 in
theorem c_M_sameX (l : Launch) (D : va_G) (cI cL cO : ClassId) (N t0 mi : Nat) (hl0 : l.stackTraces = false) (x0 : Nat) (lim : Int32) (a0 : Nat) (k0 : Nat) (u0 : Nat) (v0 : Nat) (t1 : Nat) (gen : Int32) (wrg : Int32) (rns : Int32) (als : Int32) (d0 : Nat) (sz : Int32) (mo : Int32) (fr : va_W) (bi : Int32) (x : Int64) (y : Int64) (hbad : bi < 0 ∨ ¬ bi < sz) : CT l y_M_same w_M_same ({ frames := 7, cells := 1, slots := 6, locals := 103 }) D cI cL cO N t0 mi [.ref x0, .int bi, .long x, .long y] ((wX x0 lim a0 k0 u0 v0 t1 gen wrg rns als) ++ ((wH a0 d0 sz mo) ++ fr)) "java/lang/IndexOutOfBoundsException" (fun u : Unit => ((wX x0 lim a0 k0 u0 v0 t1 gen wrg rns als) ++ ((wH a0 d0 sz mo) ++ fr))) 1 6 := by
  refine ofT (cc := b_M_same) (maxL := 7) (ret := (some .boolean)) (by decide) rfl (Nat.le_of_ble_eq_true rfl) ?_
  intro p e s m below meth c A ls H Q hQ hx hb hr hlocks hmt hts hown hml hP hK hD hS hA hl hE hN hAN
  have hl : lv_has ls 7 [(0, .ref x0), (1, .int bi), (2, .long x), (4, .long y)] := hl
  have hown : s.vm.findClass R_M = some m.cls := hown
  have ht : ∀ w ∈ BIG, w.before _ s = true := fun w h => hts w (List.mem_cons_of_mem _ h)
  refine lv_aload_n hx hb d_M_same_0 rfl (lv_at hl 0 rfl) ?_
  refine lv_iload_n hx hb d_M_same_1 rfl (lv_at hl 1 rfl) ?_
  rw [hQ]; exact passT (runT (As := [.int bi]) (rest := []) ⟨hx, hb, hml, hown, hts⟩ (c_M_findT l D cI cL cO N t0 mi hl0 x0 lim a0 k0 u0 v0 t1 gen wrg rns als d0 sz mo fr bi hbad H.size) (cwV 1 hts (gBIG (m4 k_ml_M_64 k_im_M_find k_sel_M_find k_ini_M) k_co_M_find) rfl rfl rfl (by decide +kernel) ⟨Nat.le_of_ble_eq_true rfl, Nat.le_of_ble_eq_true rfl⟩) ⟨PX.bl, va_recv hK.1 hP (ci := 3) (q0 := 0) rfl rfl, PX.pre hP hD hK hE hS hAN hN⟩ rfl rfl hl.1 rfl (lv_room (Nat.le_of_ble_eq_true rfl)) d_M_same_2 ⟨Nat.le_of_ble_eq_true rfl, Nat.le_of_ble_eq_true rfl⟩) rfl rfl rfl hlocks hmt hS (A_in hD hS hA) (fun H1 h1 => by obtain ⟨u, h2, h3⟩ := h1; exact ⟨u, h2, h3.weaken (fun _ q _ h => A_in hD hS hA q.1 h)⟩)

set_option maxHeartbeats 1000000 in
set_option maxRecDepth 100000 in
theorem c_M_sameS0 (l : Launch) (D : va_G) (cI cL cO : ClassId) (N t0 mi : Nat) (hl0 : l.stackTraces = false) (x0 : Nat) (lim : Int32) (a0 : Nat) (k0 : Nat) (u0 : Nat) (v0 : Nat) (t1 : Nat) (gen : Int32) (wrg : Int32) (rns : Int32) (als : Int32) (d0 : Nat) (sz : Int32) (mo : Int32) (cap : Nat) (rf : Nat → Option Nat) (h0 : Nat) (q1 : Nat) (q2 : Nat) (q3 : Nat) (q4 : Nat) (q5 : Nat) (o : Fn) (f : Fn) (ee : Fn) (t : Fn) (b : Fn) (ic : Int32) (bc : Int32) (sa : Int32) (gn : Int32) (fr : va_W) (bi : Int32) (x : Int64) (y : Int64) (hi0 : ¬ bi < 0) (hi1 : bi < sz) (hi2 : vp_in bi cap) (hi3 : rf bi.toNatClampNeg = some h0) (w1 : sa = 0) : CT l y_M_same w_M_same ({ frames := 6, cells := 1, slots := 6, locals := 85 }) D cI cL cO N t0 mi [.ref x0, .int bi, .long x, .long y] ((wX x0 lim a0 k0 u0 v0 t1 gen wrg rns als) ++ ((wH a0 d0 sz mo) ++ ((wR cO d0 cap rf) ++ ((wB cI h0 q1 q2 q3 q4 q5 o f ee t b ic bc sa gn) ++ fr)))) "java/lang/IllegalStateException" (fun u : Unit => ((wX x0 lim a0 k0 u0 v0 t1 gen wrg rns als) ++ ((wH a0 d0 sz mo) ++ ((wR cO d0 cap rf) ++ ((wB cI h0 q1 q2 q3 q4 q5 o f ee t b ic bc sa gn) ++ fr))))) 1 6 := by
  refine ofT (cc := b_M_same) (maxL := 7) (ret := (some .boolean)) (by decide) rfl (Nat.le_of_ble_eq_true rfl) ?_
  intro p e s m below meth c A ls H Q hQ hx hb hr hlocks hmt hts hown hml hP hK hD hS hA hl hE hN hAN
  have hl : lv_has ls 7 [(0, .ref x0), (1, .int bi), (2, .long x), (4, .long y)] := hl
  have hown : s.vm.findClass R_M = some m.cls := hown
  have ht : ∀ w ∈ BIG, w.before _ s = true := fun w h => hts w (List.mem_cons_of_mem _ h)
  refine lv_aload_n hx hb d_M_same_0 rfl (lv_at hl 0 rfl) ?_
  refine lv_iload_n hx hb d_M_same_1 rfl (lv_at hl 1 rfl) ?_
  refine goRv (va_runV (As := [.int bi]) (rest := []) ⟨hx, hb, hml, hown, hts⟩ (c_M_find l D cI cL cO x0 lim a0 k0 u0 v0 t1 gen wrg rns als d0 sz mo cap rf h0 q1 q2 q3 q4 q5 o f ee t b ic bc sa gn bi hi0 hi1 hi2 hi3) (cwV 1 hts (gBIG (m4 k_ml_M_64 k_im_M_find k_sel_M_find k_ini_M) k_co_M_find) rfl rfl rfl (by decide +kernel) ⟨Nat.le_of_ble_eq_true rfl, Nat.le_of_ble_eq_true rfl⟩) ⟨PR.bl, va_recv hK.1 (P_app.mpr ⟨(P_app.mp hP).1, (P_app.mpr ⟨(P_app.mp (P_app.mp hP).2).1, (P_app.mpr ⟨(P_app.mp (P_app.mp (P_app.mp hP).2).2).1, (P_app.mp (P_app.mp (P_app.mp (P_app.mp hP).2).2).2).1⟩)⟩)⟩) (ci := 3) (q0 := 0) rfl rfl, PR.pre (P_app.mpr ⟨(P_app.mp hP).1, (P_app.mpr ⟨(P_app.mp (P_app.mp hP).2).1, (P_app.mpr ⟨(P_app.mp (P_app.mp (P_app.mp hP).2).2).1, (P_app.mp (P_app.mp (P_app.mp (P_app.mp hP).2).2).2).1⟩)⟩)⟩) hK⟩ rfl rfl hl.1 rfl (lv_room (Nat.le_of_ble_eq_true rfl)) d_M_same_2 ⟨Nat.le_of_ble_eq_true rfl, Nat.le_of_ble_eq_true rfl⟩) ?_
  refine lv_astore (lv' := [(6, .ref h0), (0, .ref x0), (1, .int bi), (2, .long x), (4, .long y)]) hx hb d_M_same_5 hl (by decide) rfl (fun ls hl => ?_)
  refine lv_aload hx hb d_M_same_7 (lv_at hl 0 rfl) ?_
  refine va_getN (ci := 0) (v := .int sa) (C := R_B) (T := T_B) (N := 9) hx hb ht in_B hown hK.1 hP 3 rfl rfl 7 (by decide) (va_Nw.use rfl (hK.2 _ n_fl_M_100)) (fun _ h9 => h9) rfl d_M_same_9 ?_
  refine lv_if_eq (tgt := 27) hx hb d_M_same_12 (by decide) (fun c_12 => ?_) (fun c_12 => ?_)
  · rw [hQ]; exact w_throw (X := "java/lang/IllegalStateException") (tx := "the block has no bytes that are right") (ic := 114) (ik := 110) (is := 178) (N := N) hx hb hl0 hlocks hown th3 kx4_S ht hE.1 (by decide) kx1_S kx2_S kx3_S hmt (hl.1.trans hml.symm) hS hAN hN d_M_same_27 d_M_same_30 d_M_same_31 d_M_same_33 d_M_same_36 (Nat.le_of_ble_eq_true rfl) (Nat.le_of_ble_eq_true rfl) (Nat.le_of_ble_eq_true rfl) (Nat.le_of_ble_eq_true rfl) (fun H1 up => ⟨(), P_up hP up, hD⟩)
  · exact absurd w1 c_12

set_option maxHeartbeats 1000000 in
set_option maxRecDepth 100000 in
theorem c_M_sameS1 (l : Launch) (D : va_G) (cI cL cO : ClassId) (N t0 mi : Nat) (hl0 : l.stackTraces = false) (x0 : Nat) (lim : Int32) (a0 : Nat) (k0 : Nat) (u0 : Nat) (v0 : Nat) (t1 : Nat) (gen : Int32) (wrg : Int32) (rns : Int32) (als : Int32) (d0 : Nat) (sz : Int32) (mo : Int32) (cap : Nat) (rf : Nat → Option Nat) (h0 : Nat) (q1 : Nat) (q2 : Nat) (q3 : Nat) (q4 : Nat) (q5 : Nat) (o : Fn) (f : Fn) (ee : Fn) (t : Fn) (b : Fn) (ic : Int32) (bc : Int32) (sa : Int32) (gn : Int32) (k1 : Nat) (dd : Fn) (fr : va_W) (bi : Int32) (x : Int64) (y : Int64) (hi0 : ¬ bi < 0) (hi1 : bi < sz) (hi2 : vp_in bi cap) (hi3 : rf bi.toNatClampNeg = some h0) (w1 : ¬ sa = 0) (w2 : ¬ vdF b bc = 0) : CT l y_M_same w_M_same ({ frames := 6, cells := 1, slots := 6, locals := 112 }) D cI cL cO N t0 mi [.ref x0, .int bi, .long x, .long y] ((wX x0 lim a0 k0 u0 v0 t1 gen wrg rns als) ++ ((wH a0 d0 sz mo) ++ ((wR cO d0 cap rf) ++ ((wB cI h0 q1 q2 q3 q4 q5 o f ee t b ic bc sa gn) ++ ((wK k0 k1) ++ ((wI3 cI k1 dd) ++ fr)))))) "java/lang/IllegalStateException" (fun u : Fn => ((wX x0 lim a0 k0 u0 v0 t1 gen wrg rns als) ++ ((wH a0 d0 sz mo) ++ ((wR cO d0 cap rf) ++ ((wB cI h0 q1 q2 q3 q4 q5 o f ee t b ic bc sa gn) ++ ((wK k0 k1) ++ ((wI3 cI k1 u) ++ fr))))))) 1 6 := by
  refine ofT (cc := b_M_same) (maxL := 7) (ret := (some .boolean)) (by decide) rfl (Nat.le_of_ble_eq_true rfl) ?_
  intro p e s m below meth c A ls H Q hQ hx hb hr hlocks hmt hts hown hml hP hK hD hS hA hl hE hN hAN
  have hl : lv_has ls 7 [(0, .ref x0), (1, .int bi), (2, .long x), (4, .long y)] := hl
  have hown : s.vm.findClass R_M = some m.cls := hown
  have ht : ∀ w ∈ BIG, w.before _ s = true := fun w h => hts w (List.mem_cons_of_mem _ h)
  refine lv_aload_n hx hb d_M_same_0 rfl (lv_at hl 0 rfl) ?_
  refine lv_iload_n hx hb d_M_same_1 rfl (lv_at hl 1 rfl) ?_
  refine goRv (va_runV (As := [.int bi]) (rest := []) ⟨hx, hb, hml, hown, hts⟩ (c_M_find l D cI cL cO x0 lim a0 k0 u0 v0 t1 gen wrg rns als d0 sz mo cap rf h0 q1 q2 q3 q4 q5 o f ee t b ic bc sa gn bi hi0 hi1 hi2 hi3) (cwV 1 hts (gBIG (m4 k_ml_M_64 k_im_M_find k_sel_M_find k_ini_M) k_co_M_find) rfl rfl rfl (by decide +kernel) ⟨Nat.le_of_ble_eq_true rfl, Nat.le_of_ble_eq_true rfl⟩) ⟨PR.bl, va_recv hK.1 (P_app.mpr ⟨(P_app.mp hP).1, (P_app.mpr ⟨(P_app.mp (P_app.mp hP).2).1, (P_app.mpr ⟨(P_app.mp (P_app.mp (P_app.mp hP).2).2).1, (P_app.mp (P_app.mp (P_app.mp (P_app.mp hP).2).2).2).1⟩)⟩)⟩) (ci := 3) (q0 := 0) rfl rfl, PR.pre (P_app.mpr ⟨(P_app.mp hP).1, (P_app.mpr ⟨(P_app.mp (P_app.mp hP).2).1, (P_app.mpr ⟨(P_app.mp (P_app.mp (P_app.mp hP).2).2).1, (P_app.mp (P_app.mp (P_app.mp (P_app.mp hP).2).2).2).1⟩)⟩)⟩) hK⟩ rfl rfl hl.1 rfl (lv_room (Nat.le_of_ble_eq_true rfl)) d_M_same_2 ⟨Nat.le_of_ble_eq_true rfl, Nat.le_of_ble_eq_true rfl⟩) ?_
  refine lv_astore (lv' := [(6, .ref h0), (0, .ref x0), (1, .int bi), (2, .long x), (4, .long y)]) hx hb d_M_same_5 hl (by decide) rfl (fun ls hl => ?_)
  refine lv_aload hx hb d_M_same_7 (lv_at hl 0 rfl) ?_
  refine va_getN (ci := 0) (v := .int sa) (C := R_B) (T := T_B) (N := 9) hx hb ht in_B hown hK.1 hP 3 rfl rfl 7 (by decide) (va_Nw.use rfl (hK.2 _ n_fl_M_100)) (fun _ h9 => h9) rfl d_M_same_9 ?_
  refine lv_if_eq (tgt := 27) hx hb d_M_same_12 (by decide) (fun c_12 => ?_) (fun c_12 => ?_)
  · exact absurd c_12 w1
  · refine lv_aload_n hx hb d_M_same_15 rfl (lv_at hl 1 rfl) ?_
    refine va_get (ci := 3) (v := .ref k0) (C := R_M) (T := T_M) (N := 10) hx hb ht in_M hown hK.1 hP 0 rfl rfl 2 (by decide) (ht _ k_fl_M_19) (fun _ h9 => h9) rfl d_M_same_16 ?_
    refine lv_aload hx hb d_M_same_19 (lv_at hl 0 rfl) ?_
    have hP := P_sw3 hP
    have hD := D_sw3 hD
    have hP := P_sw2 hP
    have hD := D_sw2 hD
    have hP := P_sw1 hP
    have hD := D_sw1 hD
    have hP := P_sw hP
    have hD := D_sw hD
    have hP := P_sw4 hP
    have hD := D_sw4 hD
    have hP := P_sw3 hP
    have hD := D_sw3 hD
    have hP := P_sw2 hP
    have hD := D_sw2 hD
    have hP := P_sw1 hP
    have hD := D_sw1 hD
    have hP := P_sw4 hP
    have hD := D_sw4 hD
    have hP := P_sw3 hP
    have hD := D_sw3 hD
    have hP := P_sw2 hP
    have hD := D_sw2 hD
    refine goMi (va_runVN (As := [.ref h0]) (rest := []) ⟨hx, hb, hml, hown, hts⟩ (c_K_verdictOn l D cI cL cO k0 k1 dd h0 q1 q2 q3 q4 q5 o f ee t b ic bc sa gn ((wX x0 lim a0 k0 u0 v0 t1 gen wrg rns als) ++ ((wH a0 d0 sz mo) ++ ((wR cO d0 cap rf) ++ fr))) H.size) ⟨va_cnB 1 hts (gB0 k_co_K_verdictOn) rfl rfl rfl (hK.2 _ n_ml_M_130) (ht _ k_ini_K) (by decide +kernel) ⟨Nat.le_of_ble_eq_true rfl, Nat.le_of_ble_eq_true rfl⟩, ht _ k_im_K_verdictOn, ht _ k_sel_K_verdictOn⟩ ⟨PM.bl, va_recv hK.1 hP (ci := 1) (q0 := 0) rfl rfl, PM.pre hP hD hK⟩ rfl rfl hl.1 rfl (lv_room (Nat.le_of_ble_eq_true rfl)) d_M_same_21 ⟨Nat.le_of_ble_eq_true rfl, Nat.le_of_ble_eq_true rfl⟩) hD hS hA (fun r_21 u H locs hw hP hD hS => ?_)
    obtain ⟨dd_21, rfl⟩ : ∃ z, z = u := ⟨_, rfl⟩
    have e_21 : r_21 = vdF b bc ∧ dd_21 = (vcF b bc).2 := hw
    have hP : va_P D vwCl ((wK k0 k1) ++ ((wI3 cI k1 dd_21) ++ ((wB cI h0 q1 q2 q3 q4 q5 o f ee t b ic bc sa gn) ++ ((wX x0 lim a0 k0 u0 v0 t1 gen wrg rns als) ++ ((wH a0 d0 sz mo) ++ ((wR cO d0 cap rf) ++ fr)))))) H := hP
    have hD : va_D A ((wK k0 k1) ++ ((wI3 cI k1 dd_21) ++ ((wB cI h0 q1 q2 q3 q4 q5 o f ee t b ic bc sa gn) ++ ((wX x0 lim a0 k0 u0 v0 t1 gen wrg rns als) ++ ((wH a0 d0 sz mo) ++ ((wR cO d0 cap rf) ++ fr)))))) := hD
    have hP := P_sw1 hP
    have hD := D_sw1 hD
    have hP := P_sw2 hP
    have hD := D_sw2 hD
    have hP := P_sw3 hP
    have hD := D_sw3 hD
    have hP := P_sw4 hP
    have hD := D_sw4 hD
    have hP := P_sw hP
    have hD := D_sw hD
    have hP := P_sw1 hP
    have hD := D_sw1 hD
    have hP := P_sw2 hP
    have hD := D_sw2 hD
    have hP := P_sw3 hP
    have hD := D_sw3 hD
    have hP := P_sw hP
    have hD := D_sw hD
    have hP := P_sw1 hP
    have hD := D_sw1 hD
    have hP := P_sw2 hP
    have hD := D_sw2 hD
    have hP : va_P D vwCl ((wX x0 lim a0 k0 u0 v0 t1 gen wrg rns als) ++ ((wH a0 d0 sz mo) ++ ((wR cO d0 cap rf) ++ ((wB cI h0 q1 q2 q3 q4 q5 o f ee t b ic bc sa gn) ++ ((wK k0 k1) ++ ((wI3 cI k1 dd_21) ++ fr)))))) H := hP
    have hD : va_D A ((wX x0 lim a0 k0 u0 v0 t1 gen wrg rns als) ++ ((wH a0 d0 sz mo) ++ ((wR cO d0 cap rf) ++ ((wB cI h0 q1 q2 q3 q4 q5 o f ee t b ic bc sa gn) ++ ((wK k0 k1) ++ ((wI3 cI k1 dd_21) ++ fr)))))) := hD
    refine lv_if_eq (tgt := 37) hx hb d_M_same_24 (by decide) (fun c_24 => ?_) (fun c_24 => ?_)
    · exact absurd (c_24) (fun h => w2 (e_21.1.symm.trans h))
    · rw [hQ]; exact w_throw (X := "java/lang/IllegalStateException") (tx := "the block has no bytes that are right") (ic := 114) (ik := 110) (is := 178) (N := N) hx hb hl0 hlocks hown th3 kx4_S ht hE.1 (by decide) kx1_S kx2_S kx3_S hmt (hl.1.trans hml.symm) hS hAN hN d_M_same_27 d_M_same_30 d_M_same_31 d_M_same_33 d_M_same_36 (Nat.le_of_ble_eq_true rfl) (Nat.le_of_ble_eq_true rfl) (Nat.le_of_ble_eq_true rfl) (Nat.le_of_ble_eq_true rfl) (fun H1 up => ⟨dd_21, P_up hP up, hD⟩)

abbrev w_M_oldestGeneration : List Cond := .code y_M_oldestGeneration b_M_oldestGeneration 1 (some .int) :: BIG
set_option maxHeartbeats 1000000 in
set_option maxRecDepth 100000 in
theorem c_M_oldestGeneration (l : Launch) (D : va_G) (cI cL cO : ClassId) (x0 : Nat) (lim : Int32) (a0 : Nat) (k0 : Nat) (u0 : Nat) (v0 : Nat) (t1 : Nat) (gen : Int32) (wrg : Int32) (rns : Int32) (als : Int32) : CRi l y_M_oldestGeneration w_M_oldestGeneration ({ frames := 1, cells := 0, slots := 0, locals := 30 }) D cI cL cO [.ref x0] (wX x0 lim a0 k0 u0 v0 t1 gen wrg rns als) (maxF 0 (gen - lim + 1)) := by
  refine ofR (cc := b_M_oldestGeneration) (maxL := 1) (ret := (some .int)) (by decide) rfl (Nat.le_of_ble_eq_true rfl) ?_
  intro p e s m below meth c ls Q hQ hx hb hr hlocks hts hown hml hP hK hl
  have hl : lv_has ls 1 [(0, .ref x0)] := hl
  have hown : s.vm.findClass R_M = some m.cls := hown
  have ht : ∀ w ∈ BIG, w.before _ s = true := fun w h => hts w (List.mem_cons_of_mem _ h)
  refine lv_iconst (v := 0) hx hb d_M_oldestGeneration_0 (by decide) ?_
  refine lv_aload_n hx hb d_M_oldestGeneration_1 rfl (lv_at hl 0 rfl) ?_
  refine va_get (ci := 3) (v := .int gen) (C := R_M) (T := T_M) (N := 10) hx hb ht in_M hown hK.1 hP 0 rfl rfl 6 (by decide) (ht _ k_fl_M_103) (fun _ h9 => h9) rfl d_M_oldestGeneration_2 ?_
  refine lv_aload_n hx hb d_M_oldestGeneration_5 rfl (lv_at hl 0 rfl) ?_
  refine va_get (ci := 3) (v := .int lim) (C := R_M) (T := T_M) (N := 10) hx hb ht in_M hown hK.1 hP 0 rfl rfl 0 (by decide) (ht _ k_fl_M_42) (fun _ h9 => h9) rfl d_M_oldestGeneration_6 ?_
  refine lv_isub hx hb d_M_oldestGeneration_9 ?_
  refine lv_iconst (v := 1) hx hb d_M_oldestGeneration_10 (by decide) ?_
  refine lv_iadd hx hb d_M_oldestGeneration_11 ?_
  refine w_max (rest := []) hx hb (hml.trans hl.1.symm) hown (ht _ k_ml_M_189) (ht _ k_st_Ma_max) (ht _ k_ini_Ma) (ht _ k_co_Ma_max) (Nat.le_of_ble_eq_true rfl) (Nat.le_of_ble_eq_true rfl) (Nat.le_of_ble_eq_true rfl) (Nat.le_of_ble_eq_true rfl) d_M_oldestGeneration_12 ?_
  rw [hQ]; exact retRi hx hb hr hlocks rfl d_M_oldestGeneration_15
