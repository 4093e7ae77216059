abbrev w_U_load : List Cond := .code y_U_load b_U_load 2 (some .long) :: BIG
set_option maxHeartbeats 4000000 in
set_option maxRecDepth 100000 in
theorem c_U_load (l : Launch) (D : va_G) (cI cL cO : ClassId) (u0 : Nat) (u1 : Nat) (u2 : Nat) (hg : Int32) (sp : Int32) (en : Int32) (bb : Int32) (g : FL) (i : Int32) : CRl l y_U_load w_U_load ({ frames := 1, cells := 0, slots := 0, locals := 20 }) D cI cL cO [.ref u0, .int i] ((wU u0 u1 u2 hg sp en bb) ++ (wL4 cL u1 g)) (ldF g i) := by
  refine ofR (cc := b_U_load) (maxL := 2) (ret := (some .long)) (by decide) rfl (Nat.le_of_ble_eq_true rfl) ?_
  intro p e s m below meth c ls Q hQ hx hb hr hlocks hts hown hml hP hK hl
  have hl : lv_has ls 2 [(0, .ref u0), (1, .int i)] := hl
  have hown : s.vm.findClass R_U = some m.cls := hown
  have ht : ∀ w ∈ BIG, w.before _ s = true := fun w h => hts w (List.mem_cons_of_mem _ h)
  refine lv_iload_n hx hb d_U_load_0 rfl (lv_at hl 1 rfl) ?_
  refine goRi (va_runSN (As := [.int i]) (rest := []) ⟨hx, hb, hml, hown, hts⟩ (c_M_isRegister l D cI cL cO i) ⟨va_cnB 1 hts (gB0 k_co_M_isRegister) rfl rfl rfl (hK.2 _ n_ml_U_113) (ht _ k_ini_M) (by decide +kernel) ⟨Nat.le_of_ble_eq_true rfl, Nat.le_of_ble_eq_true rfl⟩, ht _ k_st_M_isRegister, trivial⟩ ⟨PR.bl, PR.pre P_nil hK⟩ rfl rfl hl.1 rfl (lv_room (Nat.le_of_ble_eq_true rfl)) d_U_load_1 ⟨Nat.le_of_ble_eq_true rfl, Nat.le_of_ble_eq_true rfl⟩) ?_
  refine lv_if_eq (tgt := 16) hx hb d_U_load_4 (by decide) (fun c_4 => ?_) (fun c_4 => ?_)
  · refine lv_lconst (v := 0) hx hb d_U_load_16 (by decide) ?_
    rw [hQ]; exact retRl hx hb hr hlocks (by first | (simp only [ldF, if_pos c_4]; done) | simp [ldF, c_4]) d_U_load_17
  · refine lv_aload_n hx hb d_U_load_7 rfl (lv_at hl 0 rfl) ?_
    refine va_get (ci := 2) (v := .ref u1) (C := R_U) (T := T_U) (N := 6) hx hb ht in_U hown hK.1 hP 0 rfl rfl 0 (by decide) (ht _ k_fl_U_9) (fun _ h9 => h9) rfl d_U_load_8 ?_
    refine lv_iload_n hx hb d_U_load_11 rfl (lv_at hl 1 rfl) ?_
    refine va_lald hx hb hK.1 hP 1 1 rfl rfl (isReg_in c_4) d_U_load_12 ?_
    refine lv_goto (tgt := 17) hx hb d_U_load_13 (by decide) ?_
    rw [hQ]; exact retRl hx hb hr hlocks (by first | (simp only [ldF, if_neg c_4]; done) | simp [ldF, c_4]) d_U_load_17

abbrev w_U_store : List Cond := .code y_U_store b_U_store 4 none :: BIG
set_option maxHeartbeats 4000000 in
set_option maxRecDepth 100000 in
theorem c_U_store (l : Launch) (D : va_G) (cI cL cO : ClassId) (u0 : Nat) (u1 : Nat) (u2 : Nat) (hg : Int32) (sp : Int32) (en : Int32) (bb : Int32) (g : FL) (fr : va_W) (i : Int32) (v : Int64) : CMv l y_U_store w_U_store ({ frames := 1, cells := 0, slots := 0, locals := 20 }) D cI cL cO [.ref u0, .int i, .long v] ((wU u0 u1 u2 hg sp en bb) ++ ((wL4 cL u1 g) ++ fr)) (fun u : FL => u = stF g i v) (fun u : FL => ((wU u0 u1 u2 hg sp en bb) ++ ((wL4 cL u1 u) ++ fr))) 0 0 := by
  refine ofMv (cc := b_U_store) (maxL := 4) (ret := none) (by decide) rfl (Nat.le_of_ble_eq_true rfl) ?_
  intro p e s m below meth c A ls H Q hQ hx hb hr hlocks hin hts hown hml hP hK hD hS hA hl
  have hl : lv_has ls 4 [(0, .ref u0), (1, .int i), (2, .long v)] := hl
  have hown : s.vm.findClass R_U = some m.cls := hown
  have ht : ∀ w ∈ BIG, w.before _ s = true := fun w h => hts w (List.mem_cons_of_mem _ h)
  refine lv_iload_n hx hb d_U_store_0 rfl (lv_at hl 1 rfl) ?_
  refine goRi (va_runSN (As := [.int i]) (rest := []) ⟨hx, hb, hml, hown, hts⟩ (c_M_isRegister l D cI cL cO i) ⟨va_cnB 1 hts (gB0 k_co_M_isRegister) rfl rfl rfl (hK.2 _ n_ml_U_113) (ht _ k_ini_M) (by decide +kernel) ⟨Nat.le_of_ble_eq_true rfl, Nat.le_of_ble_eq_true rfl⟩, ht _ k_st_M_isRegister, trivial⟩ ⟨PR.bl, PR.pre P_nil hK⟩ rfl rfl hl.1 rfl (lv_room (Nat.le_of_ble_eq_true rfl)) d_U_store_1 ⟨Nat.le_of_ble_eq_true rfl, Nat.le_of_ble_eq_true rfl⟩) ?_
  refine lv_if_eq (tgt := 14) hx hb d_U_store_4 (by decide) (fun c_4 => ?_) (fun c_4 => ?_)
  · rw [hQ]; exact retMv (w1 := fun u : FL => ((wU u0 u1 u2 hg sp en bb) ++ ((wL4 cL u1 u) ++ fr))) g hx hb hr hlocks hP hD hS (by first | (simp only [stF, if_pos c_4]; done) | simp [stF, c_4]) d_U_store_14
  · refine lv_aload_n hx hb d_U_store_7 rfl (lv_at hl 0 rfl) ?_
    refine va_get (ci := 2) (v := .ref u1) (C := R_U) (T := T_U) (N := 6) hx hb ht in_U hown hK.1 hP 0 rfl rfl 0 (by decide) (ht _ k_fl_U_9) (fun _ h9 => h9) rfl d_U_store_8 ?_
    refine lv_iload_n hx hb d_U_store_11 rfl (lv_at hl 1 rfl) ?_
    refine lv_lload_n hx hb d_U_store_12 rfl (lv_at hl 2 rfl) ?_
    refine va_last hx hb hK.1 hP hD hS 1 1 rfl rfl (isReg_in c_4) d_U_store_13 (fun H locs hP hD hS => ?_)
    have hP : va_P D vwCl ((wU u0 u1 u2 hg sp en bb) ++ ((wL4 cL u1 (vp_updL g i.toNatClampNeg v)) ++ fr)) H := hP
    have hD : va_D A ((wU u0 u1 u2 hg sp en bb) ++ ((wL4 cL u1 (vp_updL g i.toNatClampNeg v)) ++ fr)) := hD
    rw [hQ]; exact retMv (w1 := fun u : FL => ((wU u0 u1 u2 hg sp en bb) ++ ((wL4 cL u1 u) ++ fr))) (vp_updL g i.toNatClampNeg v) hx hb hr hlocks hP hD hS (by first | (simp only [stF, if_neg c_4]; done) | simp [stF, c_4]) d_U_store_14

abbrev w_U_push : List Cond := .code y_U_push b_U_push 3 none :: BIG
set_option maxHeartbeats 4000000 in
set_option maxRecDepth 100000 in
theorem c_U_push (l : Launch) (D : va_G) (cI cL cO : ClassId) (u0 : Nat) (u1 : Nat) (u2 : Nat) (hg : Int32) (sp : Int32) (en : Int32) (bb : Int32) (pl : FL) (fr : va_W) (v : Int64) (hh : 0 ≤ hg.toInt ∧ hg.toInt ≤ 4) : CMv l y_U_push w_U_push ({ frames := 0, cells := 0, slots := 0, locals := 0 }) D cI cL cO [.ref u0, .long v] ((wU u0 u1 u2 hg sp en bb) ++ ((wL4 cL u2 pl) ++ fr)) (fun u : Pi => u = puF v (pl, hg) ∧ (0 ≤ u.2.toInt ∧ u.2.toInt ≤ 4)) (fun u : Pi => ((wU u0 u1 u2 u.2 sp en bb) ++ ((wL4 cL u2 u.1) ++ fr))) 0 0 := by
  refine ofMv (cc := b_U_push) (maxL := 3) (ret := none) (by decide) rfl (Nat.le_of_ble_eq_true rfl) ?_
  intro p e s m below meth c A ls H Q hQ hx hb hr hlocks hin hts hown hml hP hK hD hS hA hl
  have hl : lv_has ls 3 [(0, .ref u0), (1, .long v)] := hl
  have hown : s.vm.findClass R_U = some m.cls := hown
  have ht : ∀ w ∈ BIG, w.before _ s = true := fun w h => hts w (List.mem_cons_of_mem _ h)
  refine lv_aload_n hx hb d_U_push_0 rfl (lv_at hl 0 rfl) ?_
  refine va_get (ci := 2) (v := .int hg) (C := R_U) (T := T_U) (N := 6) hx hb ht in_U hown hK.1 hP 0 rfl rfl 2 (by decide) (ht _ k_fl_U_28) (fun _ h9 => h9) rfl d_U_push_1 ?_
  refine lv_iconst (v := 4) hx hb d_U_push_4 (by decide) ?_
  refine lv_icmp_ge (tgt := 28) hx hb d_U_push_5 (by decide) (fun c_5 => ?_) (fun c_5 => ?_)
  · rw [hQ]; exact retMv (w1 := fun u : Pi => ((wU u0 u1 u2 u.2 sp en bb) ++ ((wL4 cL u2 u.1) ++ fr))) (pl, hg) hx hb hr hlocks hP hD hS ⟨(by first | (simp only [puF, if_pos c_5]; done) | simp [puF, c_5]), hh⟩ d_U_push_28
  · refine lv_aload_n hx hb d_U_push_8 rfl (lv_at hl 0 rfl) ?_
    refine va_get (ci := 2) (v := .ref u2) (C := R_U) (T := T_U) (N := 6) hx hb ht in_U hown hK.1 hP 0 rfl rfl 1 (by decide) (ht _ k_fl_U_15) (fun _ h9 => h9) rfl d_U_push_9 ?_
    refine lv_aload_n hx hb d_U_push_12 rfl (lv_at hl 0 rfl) ?_
    refine va_get (ci := 2) (v := .int hg) (C := R_U) (T := T_U) (N := 6) hx hb ht in_U hown hK.1 hP 0 rfl rfl 2 (by decide) (ht _ k_fl_U_28) (fun _ h9 => h9) rfl d_U_push_13 ?_
    refine lv_lload_n hx hb d_U_push_16 rfl (lv_at hl 1 rfl) ?_
    refine va_last hx hb hK.1 hP hD hS 1 1 rfl rfl (in_of (N := 4) (by decide) (nn_of hh.1) c_5) d_U_push_17 (fun H locs hP hD hS => ?_)
    have hP : va_P D vwCl ((wU u0 u1 u2 hg sp en bb) ++ ((wL4 cL u2 (vp_updL pl hg.toNatClampNeg v)) ++ fr)) H := hP
    have hD : va_D A ((wU u0 u1 u2 hg sp en bb) ++ ((wL4 cL u2 (vp_updL pl hg.toNatClampNeg v)) ++ fr)) := hD
    refine lv_aload_n hx hb d_U_push_18 rfl (lv_at hl 0 rfl) ?_
    refine lv_dup hx hb d_U_push_19 rfl ?_
    refine va_get (ci := 2) (v := .int hg) (C := R_U) (T := T_U) (N := 6) hx hb ht in_U hown hK.1 hP 0 rfl rfl 2 (by decide) (ht _ k_fl_U_28) (fun _ h9 => h9) rfl d_U_push_20 ?_
    refine lv_iconst (v := 1) hx hb d_U_push_23 (by decide) ?_
    refine lv_iadd hx hb d_U_push_24 ?_
    refine va_put (ci := 2) (v := .int (hg + 1)) (ty := .int) (C := R_U) (T := T_U) (N := 6) hx hb ht in_U t_U t_U_ok n_U hown hK.1 hP hD hS 0 rfl rfl 2 (by decide) (ht _ k_fl_U_28) (fun _ h9 => h9) rfl (by decide +kernel) rfl rfl (Nat.le_of_ble_eq_true rfl) d_U_push_25 (fun H locs hP hD hS => ?_)
    have hP : va_P D vwCl ((wU u0 u1 u2 (hg + 1) sp en bb) ++ ((wL4 cL u2 (vp_updL pl hg.toNatClampNeg v)) ++ fr)) H := hP
    have hD : va_D A ((wU u0 u1 u2 (hg + 1) sp en bb) ++ ((wL4 cL u2 (vp_updL pl hg.toNatClampNeg v)) ++ fr)) := hD
    rw [hQ]; exact retMv (w1 := fun u : Pi => ((wU u0 u1 u2 u.2 sp en bb) ++ ((wL4 cL u2 u.1) ++ fr))) (vp_updL pl hg.toNatClampNeg v, hg + 1) hx hb hr hlocks hP hD hS ⟨(by first | (simp only [puF, if_neg c_5]; done) | simp [puF, c_5]), h4_1 hh c_5⟩ d_U_push_28

abbrev w_U_pop : List Cond := .code y_U_pop b_U_pop 1 (some .long) :: BIG
set_option maxHeartbeats 4000000 in
set_option maxRecDepth 100000 in
theorem c_U_pop (l : Launch) (D : va_G) (cI cL cO : ClassId) (u0 : Nat) (u1 : Nat) (u2 : Nat) (hg : Int32) (sp : Int32) (en : Int32) (bb : Int32) (pl : FL) (fr : va_W) (hh : 0 ≤ hg.toInt ∧ hg.toInt ≤ 4) : CMl l y_U_pop w_U_pop ({ frames := 0, cells := 0, slots := 0, locals := 0 }) D cI cL cO [.ref u0] ((wU u0 u1 u2 hg sp en bb) ++ ((wL4 cL u2 pl) ++ fr)) (fun (r : Int64) (u : Int32) => r = poV (pl, hg) ∧ u = poH (pl, hg) ∧ (0 ≤ u.toInt ∧ u.toInt ≤ 4)) (fun u : Int32 => ((wU u0 u1 u2 u sp en bb) ++ ((wL4 cL u2 pl) ++ fr))) 0 0 := by
  refine ofMl (cc := b_U_pop) (maxL := 1) (ret := (some .long)) (by decide) rfl (Nat.le_of_ble_eq_true rfl) ?_
  intro p e s m below meth c A ls H Q hQ hx hb hr hlocks hin hts hown hml hP hK hD hS hA hl
  have hl : lv_has ls 1 [(0, .ref u0)] := hl
  have hown : s.vm.findClass R_U = some m.cls := hown
  have ht : ∀ w ∈ BIG, w.before _ s = true := fun w h => hts w (List.mem_cons_of_mem _ h)
  refine lv_aload_n hx hb d_U_pop_0 rfl (lv_at hl 0 rfl) ?_
  refine va_get (ci := 2) (v := .int hg) (C := R_U) (T := T_U) (N := 6) hx hb ht in_U hown hK.1 hP 0 rfl rfl 2 (by decide) (ht _ k_fl_U_28) (fun _ h9 => h9) rfl d_U_pop_1 ?_
  refine lv_iconst (v := 1) hx hb d_U_pop_4 (by decide) ?_
  refine lv_icmp_ge (tgt := 10) hx hb d_U_pop_5 (by decide) (fun c_5 => ?_) (fun c_5 => ?_)
  · refine lv_aload_n hx hb d_U_pop_10 rfl (lv_at hl 0 rfl) ?_
    refine lv_dup hx hb d_U_pop_11 rfl ?_
    refine va_get (ci := 2) (v := .int hg) (C := R_U) (T := T_U) (N := 6) hx hb ht in_U hown hK.1 hP 0 rfl rfl 2 (by decide) (ht _ k_fl_U_28) (fun _ h9 => h9) rfl d_U_pop_12 ?_
    refine lv_iconst (v := 1) hx hb d_U_pop_15 (by decide) ?_
    refine lv_isub hx hb d_U_pop_16 ?_
    refine va_put (ci := 2) (v := .int (hg - 1)) (ty := .int) (C := R_U) (T := T_U) (N := 6) hx hb ht in_U t_U t_U_ok n_U hown hK.1 hP hD hS 0 rfl rfl 2 (by decide) (ht _ k_fl_U_28) (fun _ h9 => h9) rfl (by decide +kernel) rfl rfl (Nat.le_of_ble_eq_true rfl) d_U_pop_17 (fun H locs hP hD hS => ?_)
    have hP : va_P D vwCl ((wU u0 u1 u2 (hg - 1) sp en bb) ++ ((wL4 cL u2 pl) ++ fr)) H := hP
    have hD : va_D A ((wU u0 u1 u2 (hg - 1) sp en bb) ++ ((wL4 cL u2 pl) ++ fr)) := hD
    refine lv_aload_n hx hb d_U_pop_20 rfl (lv_at hl 0 rfl) ?_
    refine va_get (ci := 2) (v := .ref u2) (C := R_U) (T := T_U) (N := 6) hx hb ht in_U hown hK.1 hP 0 rfl rfl 1 (by decide) (ht _ k_fl_U_15) (fun _ h9 => h9) rfl d_U_pop_21 ?_
    refine lv_aload_n hx hb d_U_pop_24 rfl (lv_at hl 0 rfl) ?_
    refine va_get (ci := 2) (v := .int (hg - 1)) (C := R_U) (T := T_U) (N := 6) hx hb ht in_U hown hK.1 hP 0 rfl rfl 2 (by decide) (ht _ k_fl_U_28) (fun _ h9 => h9) rfl d_U_pop_25 ?_
    refine va_lald hx hb hK.1 hP 1 1 rfl rfl (in4_m hh c_5) d_U_pop_28 ?_
    rw [hQ]; exact retMl (w1 := fun u : Int32 => ((wU u0 u1 u2 u sp en bb) ++ ((wL4 cL u2 pl) ++ fr))) (hg - 1) hx hb hr hlocks hP hD hS ⟨(by first | (simp only [poV, if_pos c_5]; done) | simp [poV, c_5]), (by first | (simp only [poH, if_pos c_5]; done) | simp [poH, c_5]), h4_m hh c_5⟩ d_U_pop_29
  · refine lv_lconst (v := 0) hx hb d_U_pop_8 (by decide) ?_
    rw [hQ]; exact retMl (w1 := fun u : Int32 => ((wU u0 u1 u2 u sp en bb) ++ ((wL4 cL u2 pl) ++ fr))) hg hx hb hr hlocks hP hD hS ⟨(by first | (simp only [poV, if_neg c_5]; done) | simp [poV, c_5]), (by first | (simp only [poH, if_neg c_5]; done) | simp [poH, c_5]), hh⟩ d_U_pop_9

abbrev w_U_topIsZero : List Cond := .code y_U_topIsZero b_U_topIsZero 1 (some .boolean) :: BIG
set_option maxHeartbeats 4000000 in
set_option maxRecDepth 100000 in
theorem c_U_topIsZero (l : Launch) (D : va_G) (cI cL cO : ClassId) (u0 : Nat) (u1 : Nat) (u2 : Nat) (hg : Int32) (sp : Int32) (en : Int32) (bb : Int32) (pl : FL) (hh : 0 ≤ hg.toInt ∧ hg.toInt ≤ 4) : CRi l y_U_topIsZero w_U_topIsZero ({ frames := 0, cells := 0, slots := 0, locals := 0 }) D cI cL cO [.ref u0] ((wU u0 u1 u2 hg sp en bb) ++ (wL4 cL u2 pl)) (tzF (pl, hg)) := by
  refine ofR (cc := b_U_topIsZero) (maxL := 1) (ret := (some .boolean)) (by decide) rfl (Nat.le_of_ble_eq_true rfl) ?_
  intro p e s m below meth c ls Q hQ hx hb hr hlocks hts hown hml hP hK hl
  have hl : lv_has ls 1 [(0, .ref u0)] := hl
  have hown : s.vm.findClass R_U = some m.cls := hown
  have ht : ∀ w ∈ BIG, w.before _ s = true := fun w h => hts w (List.mem_cons_of_mem _ h)
  refine lv_aload_n hx hb d_U_topIsZero_0 rfl (lv_at hl 0 rfl) ?_
  refine va_get (ci := 2) (v := .int hg) (C := R_U) (T := T_U) (N := 6) hx hb ht in_U hown hK.1 hP 0 rfl rfl 2 (by decide) (ht _ k_fl_U_28) (fun _ h9 => h9) rfl d_U_topIsZero_1 ?_
  refine lv_if_le (tgt := 27) hx hb d_U_topIsZero_4 (by decide) (fun c_4 => ?_) (fun c_4 => ?_)
  · refine lv_iconst (v := 0) hx hb d_U_topIsZero_27 (by decide) ?_
    rw [hQ]; exact retRz hx hb hr hlocks rfl (by first | (simp only [tzF, if_pos c_4]; done) | simp [tzF, c_4]) d_U_topIsZero_28
  · refine lv_aload_n hx hb d_U_topIsZero_7 rfl (lv_at hl 0 rfl) ?_
    refine va_get (ci := 2) (v := .ref u2) (C := R_U) (T := T_U) (N := 6) hx hb ht in_U hown hK.1 hP 0 rfl rfl 1 (by decide) (ht _ k_fl_U_15) (fun _ h9 => h9) rfl d_U_topIsZero_8 ?_
    refine lv_aload_n hx hb d_U_topIsZero_11 rfl (lv_at hl 0 rfl) ?_
    refine va_get (ci := 2) (v := .int hg) (C := R_U) (T := T_U) (N := 6) hx hb ht in_U hown hK.1 hP 0 rfl rfl 2 (by decide) (ht _ k_fl_U_28) (fun _ h9 => h9) rfl d_U_topIsZero_12 ?_
    refine lv_iconst (v := 1) hx hb d_U_topIsZero_15 (by decide) ?_
    refine lv_isub hx hb d_U_topIsZero_16 ?_
    refine va_lald hx hb hK.1 hP 1 1 rfl rfl (in4_z hh c_4) d_U_topIsZero_17 ?_
    refine lv_lconst (v := 0) hx hb d_U_topIsZero_18 (by decide) ?_
    refine W.lcmp hx hb d_U_topIsZero_19 ?_
    refine lv_if_ne (tgt := 27) hx hb d_U_topIsZero_20 (by decide) (fun c_20 => ?_) (fun c_20 => ?_)
    · refine lv_iconst (v := 0) hx hb d_U_topIsZero_27 (by decide) ?_
      rw [hQ]; exact retRz hx hb hr hlocks rfl (by first | (simp only [tzF, if_neg c_4, if_neg c_20]; done) | simp [tzF, c_4, c_20]) d_U_topIsZero_28
    · refine lv_iconst (v := 1) hx hb d_U_topIsZero_23 (by decide) ?_
      refine lv_goto (tgt := 28) hx hb d_U_topIsZero_24 (by decide) ?_
      rw [hQ]; exact retRz hx hb hr hlocks rfl (by first | (simp only [tzF, if_neg c_4, if_pos c_20]; done) | simp [tzF, c_4, c_20]) d_U_topIsZero_28

abbrev w_U_begin : List Cond := .code y_U_begin b_U_begin 6 none :: BIG
set_option maxHeartbeats 4000000 in
set_option maxRecDepth 100000 in
theorem c_U_begin (l : Launch) (D : va_G) (cI cL cO : ClassId) (u0 : Nat) (u1 : Nat) (u2 : Nat) (hg : Int32) (sp : Int32) (en : Int32) (bb : Int32) (g : FL) (fr : va_W) (x : Int64) (y : Int64) (bt : Int32) (hnb : narrow .boolean (.int bt) = .int bt) (hfb : fits .boolean (.int bt) = true) : CMv l y_U_begin w_U_begin ({ frames := 1, cells := 0, slots := 0, locals := 24 }) D cI cL cO [.ref u0, .long x, .long y, .int bt] ((wU u0 u1 u2 hg sp en bb) ++ ((wL4 cL u1 g) ++ fr)) (fun u : FL × Int32 × Int32 × Int32 × Int32 => u = (begR x y, 0, 0, 0, bt)) (fun u : FL × Int32 × Int32 × Int32 × Int32 => ((wU u0 u1 u2 u.2.1 u.2.2.1 u.2.2.2.1 u.2.2.2.2) ++ ((wL4 cL u1 u.1) ++ fr))) 0 0 := by
  refine ofMv (cc := b_U_begin) (maxL := 6) (ret := none) (by decide) rfl (Nat.le_of_ble_eq_true rfl) ?_
  intro p e s m below meth c A ls H Q hQ hx hb hr hlocks hin hts hown hml hP hK hD hS hA hl
  have hl : lv_has ls 6 [(0, .ref u0), (1, .long x), (3, .long y), (5, .int bt)] := hl
  have hown : s.vm.findClass R_U = some m.cls := hown
  have ht : ∀ w ∈ BIG, w.before _ s = true := fun w h => hts w (List.mem_cons_of_mem _ h)
  refine lv_aload_n hx hb d_U_begin_0 rfl (lv_at hl 0 rfl) ?_
  refine va_get (ci := 2) (v := .ref u1) (C := R_U) (T := T_U) (N := 6) hx hb ht in_U hown hK.1 hP 0 rfl rfl 0 (by decide) (ht _ k_fl_U_9) (fun _ h9 => h9) rfl d_U_begin_1 ?_
  refine lv_lconst (v := 0) hx hb d_U_begin_4 (by decide) ?_
  have hP := P_sw hP
  have hD := D_sw hD
  refine goMv (va_runS (As := [.ref u1, .long 0]) (rest := []) ⟨hx, hb, hml, hown, hts⟩ (c_Ar_fill2 l D cI cL cO u1 g ((wU u0 u1 u2 hg sp en bb) ++ fr) 0 H.size) (va_cwS 2 hts (gBIG (m3 k_ml_U_22 k_st_Ar_fill2 k_ini_Ar) k_co_Ar_fill2) rfl rfl rfl (by decide +kernel) ⟨Nat.le_of_ble_eq_true rfl, Nat.le_of_ble_eq_true rfl⟩) ⟨PM.bl, PM.pre hP hD hK⟩ rfl rfl hl.1 rfl (lv_room (Nat.le_of_ble_eq_true rfl)) d_U_begin_5 ⟨Nat.le_of_ble_eq_true rfl, Nat.le_of_ble_eq_true rfl⟩) hD hS hA (fun u H locs hw hP hD hS => ?_)
  obtain ⟨f_5, rfl⟩ : ∃ z, z = u := ⟨_, rfl⟩
  have e_5 : f_5 = fun _ => 0 := hw
  have hP : va_P D vwCl ((wL4 cL u1 f_5) ++ ((wU u0 u1 u2 hg sp en bb) ++ fr)) H := hP
  have hD : va_D A ((wL4 cL u1 f_5) ++ ((wU u0 u1 u2 hg sp en bb) ++ fr)) := hD
  have hP := P_sw hP
  have hD := D_sw hD
  have hP : va_P D vwCl ((wU u0 u1 u2 hg sp en bb) ++ ((wL4 cL u1 f_5) ++ fr)) H := hP
  have hD : va_D A ((wU u0 u1 u2 hg sp en bb) ++ ((wL4 cL u1 f_5) ++ fr)) := hD
  refine lv_aload_n hx hb d_U_begin_8 rfl (lv_at hl 0 rfl) ?_
  refine va_get (ci := 2) (v := .ref u1) (C := R_U) (T := T_U) (N := 6) hx hb ht in_U hown hK.1 hP 0 rfl rfl 0 (by decide) (ht _ k_fl_U_9) (fun _ h9 => h9) rfl d_U_begin_9 ?_
  refine lv_iconst (v := 0) hx hb d_U_begin_12 (by decide) ?_
  refine lv_lload_n hx hb d_U_begin_13 rfl (lv_at hl 1 rfl) ?_
  refine va_last hx hb hK.1 hP hD hS 1 1 rfl rfl (by unfold vp_in; decide) d_U_begin_14 (fun H locs hP hD hS => ?_)
  have hP : va_P D vwCl ((wU u0 u1 u2 hg sp en bb) ++ ((wL4 cL u1 (vp_updL f_5 (0 : Int32).toNatClampNeg x)) ++ fr)) H := hP
  have hD : va_D A ((wU u0 u1 u2 hg sp en bb) ++ ((wL4 cL u1 (vp_updL f_5 (0 : Int32).toNatClampNeg x)) ++ fr)) := hD
  refine lv_aload_n hx hb d_U_begin_15 rfl (lv_at hl 0 rfl) ?_
  refine va_get (ci := 2) (v := .ref u1) (C := R_U) (T := T_U) (N := 6) hx hb ht in_U hown hK.1 hP 0 rfl rfl 0 (by decide) (ht _ k_fl_U_9) (fun _ h9 => h9) rfl d_U_begin_16 ?_
  refine lv_iconst (v := 1) hx hb d_U_begin_19 (by decide) ?_
  refine lv_lload_n hx hb d_U_begin_20 rfl (lv_at hl 2 rfl) ?_
  refine va_last hx hb hK.1 hP hD hS 1 1 rfl rfl (by unfold vp_in; decide) d_U_begin_21 (fun H locs hP hD hS => ?_)
  have hP : va_P D vwCl ((wU u0 u1 u2 hg sp en bb) ++ ((wL4 cL u1 (vp_updL (vp_updL f_5 (0 : Int32).toNatClampNeg x) (1 : Int32).toNatClampNeg y)) ++ fr)) H := hP
  have hD : va_D A ((wU u0 u1 u2 hg sp en bb) ++ ((wL4 cL u1 (vp_updL (vp_updL f_5 (0 : Int32).toNatClampNeg x) (1 : Int32).toNatClampNeg y)) ++ fr)) := hD
  refine lv_aload_n hx hb d_U_begin_22 rfl (lv_at hl 0 rfl) ?_
  refine lv_iconst (v := 0) hx hb d_U_begin_23 (by decide) ?_
  refine va_put (ci := 2) (v := .int 0) (ty := .int) (C := R_U) (T := T_U) (N := 6) hx hb ht in_U t_U t_U_ok n_U hown hK.1 hP hD hS 0 rfl rfl 2 (by decide) (ht _ k_fl_U_28) (fun _ h9 => h9) rfl (by decide +kernel) rfl rfl (Nat.le_of_ble_eq_true rfl) d_U_begin_24 (fun H locs hP hD hS => ?_)
  have hP : va_P D vwCl ((wU u0 u1 u2 0 sp en bb) ++ ((wL4 cL u1 (vp_updL (vp_updL f_5 (0 : Int32).toNatClampNeg x) (1 : Int32).toNatClampNeg y)) ++ fr)) H := hP
  have hD : va_D A ((wU u0 u1 u2 0 sp en bb) ++ ((wL4 cL u1 (vp_updL (vp_updL f_5 (0 : Int32).toNatClampNeg x) (1 : Int32).toNatClampNeg y)) ++ fr)) := hD
  refine lv_aload_n hx hb d_U_begin_27 rfl (lv_at hl 0 rfl) ?_
  refine lv_iconst (v := 0) hx hb d_U_begin_28 (by decide) ?_
  refine va_put (ci := 2) (v := .int 0) (ty := .int) (C := R_U) (T := T_U) (N := 6) hx hb ht in_U t_U t_U_ok n_U hown hK.1 hP hD hS 0 rfl rfl 3 (by decide) (ht _ k_fl_U_31) (fun _ h9 => h9) rfl (by decide +kernel) rfl rfl (Nat.le_of_ble_eq_true rfl) d_U_begin_29 (fun H locs hP hD hS => ?_)
  have hP : va_P D vwCl ((wU u0 u1 u2 0 0 en bb) ++ ((wL4 cL u1 (vp_updL (vp_updL f_5 (0 : Int32).toNatClampNeg x) (1 : Int32).toNatClampNeg y)) ++ fr)) H := hP
  have hD : va_D A ((wU u0 u1 u2 0 0 en bb) ++ ((wL4 cL u1 (vp_updL (vp_updL f_5 (0 : Int32).toNatClampNeg x) (1 : Int32).toNatClampNeg y)) ++ fr)) := hD
  refine lv_aload_n hx hb d_U_begin_32 rfl (lv_at hl 0 rfl) ?_
  refine lv_iconst (v := 0) hx hb d_U_begin_33 (by decide) ?_
  refine va_put (ci := 2) (v := .int 0) (ty := .int) (C := R_U) (T := T_U) (N := 6) hx hb ht in_U t_U t_U_ok n_U hown hK.1 hP hD hS 0 rfl rfl 4 (by decide) (ht _ k_fl_U_18) (fun _ h9 => h9) rfl (by decide +kernel) rfl rfl (Nat.le_of_ble_eq_true rfl) d_U_begin_34 (fun H locs hP hD hS => ?_)
  have hP : va_P D vwCl ((wU u0 u1 u2 0 0 0 bb) ++ ((wL4 cL u1 (vp_updL (vp_updL f_5 (0 : Int32).toNatClampNeg x) (1 : Int32).toNatClampNeg y)) ++ fr)) H := hP
  have hD : va_D A ((wU u0 u1 u2 0 0 0 bb) ++ ((wL4 cL u1 (vp_updL (vp_updL f_5 (0 : Int32).toNatClampNeg x) (1 : Int32).toNatClampNeg y)) ++ fr)) := hD
  refine lv_aload_n hx hb d_U_begin_37 rfl (lv_at hl 0 rfl) ?_
  refine lv_iload hx hb d_U_begin_38 (lv_at hl 3 rfl) ?_
  refine va_put (ci := 2) (v := .int bt) (ty := .boolean) (C := R_U) (T := T_U) (N := 6) hx hb ht in_U t_U t_U_ok n_U hown hK.1 hP hD hS 0 rfl rfl 5 (by decide) (ht _ k_fl_U_34) (fun _ h9 => h9) rfl (by decide +kernel) hnb hfb (Nat.le_of_ble_eq_true rfl) d_U_begin_40 (fun H locs hP hD hS => ?_)
  have hP : va_P D vwCl ((wU u0 u1 u2 0 0 0 bt) ++ ((wL4 cL u1 (vp_updL (vp_updL f_5 (0 : Int32).toNatClampNeg x) (1 : Int32).toNatClampNeg y)) ++ fr)) H := hP
  have hD : va_D A ((wU u0 u1 u2 0 0 0 bt) ++ ((wL4 cL u1 (vp_updL (vp_updL f_5 (0 : Int32).toNatClampNeg x) (1 : Int32).toNatClampNeg y)) ++ fr)) := hD
  rw [hQ]; exact retMv (w1 := fun u : FL × Int32 × Int32 × Int32 × Int32 => ((wU u0 u1 u2 u.2.1 u.2.2.1 u.2.2.2.1 u.2.2.2.2) ++ ((wL4 cL u1 u.1) ++ fr))) (vp_updL (vp_updL f_5 (0 : Int32).toNatClampNeg x) (1 : Int32).toNatClampNeg y, 0, 0, 0, bt) hx hb hr hlocks hP hD hS (by rw [e_5]; rfl) d_U_begin_43

abbrev w_U_resultOf : List Cond := .code y_U_resultOf b_U_resultOf 4 (some .long) :: BIG
set_option maxHeartbeats 4000000 in
set_option maxRecDepth 100000 in
theorem c_U_resultOf (l : Launch) (D : va_G) (cI cL cO : ClassId) (u0 : Nat) (u1 : Nat) (u2 : Nat) (hg : Int32) (sp : Int32) (en : Int32) (bb : Int32) (g : FL) (op : Int32) (a : Int32) (x : Int32) : CRl l y_U_resultOf w_U_resultOf ({ frames := 2, cells := 0, slots := 0, locals := 41 }) D cI cL cO [.ref u0, .int op, .int a, .int x] ((wU u0 u1 u2 hg sp en bb) ++ (wL4 cL u1 g)) (resF g op a x) := by
  refine ofR (cc := b_U_resultOf) (maxL := 4) (ret := (some .long)) (by decide) rfl (Nat.le_of_ble_eq_true rfl) ?_
  intro p e s m below meth c ls Q hQ hx hb hr hlocks hts hown hml hP hK hl
  have hl : lv_has ls 4 [(0, .ref u0), (1, .int op), (2, .int a), (3, .int x)] := hl
  have hown : s.vm.findClass R_U = some m.cls := hown
  have ht : ∀ w ∈ BIG, w.before _ s = true := fun w h => hts w (List.mem_cons_of_mem _ h)
  refine lv_iload_n hx hb d_U_resultOf_0 rfl (lv_at hl 1 rfl) ?_
  by_cases c_1_0 : op = 0
  · refine lv_lookup (off := 27) (tgt := 28) hx hb d_U_resultOf_1 (by decide) (by rw [c_1_0] <;> rfl) (by decide) ?_
    refine lv_iload_n hx hb d_U_resultOf_28 rfl (lv_at hl 3 rfl) ?_
    refine lv_i2l (v := x.toInt64) hx hb d_U_resultOf_29 rfl ?_
    rw [hQ]; exact retRl hx hb hr hlocks (by first | (simp only [resF, if_pos c_1_0]; done) | simp [resF, c_1_0]) d_U_resultOf_30
  by_cases c_1_7 : op = 7
  · refine lv_lookup (off := 30) (tgt := 31) hx hb d_U_resultOf_1 (by decide) (by rw [c_1_7] <;> rfl) (by decide) ?_
    refine lv_aload_n hx hb d_U_resultOf_31 rfl (lv_at hl 0 rfl) ?_
    refine lv_iload_n hx hb d_U_resultOf_32 rfl (lv_at hl 3 rfl) ?_
    refine goRl (va_runV (As := [.int x]) (rest := []) ⟨hx, hb, hml, hown, hts⟩ (c_U_load l D cI cL cO u0 u1 u2 hg sp en bb g x) (cwV 1 hts (gBIG (m4 k_ml_U_63 k_im_U_load k_sel_U_load k_ini_U) k_co_U_load) rfl rfl rfl (by decide +kernel) ⟨Nat.le_of_ble_eq_true rfl, Nat.le_of_ble_eq_true rfl⟩) ⟨PR.bl, va_recv hK.1 (P_app.mpr ⟨(P_app.mp hP).1, (P_app.mp hP).2⟩) (ci := 2) (q0 := 0) rfl rfl, PR.pre (P_app.mpr ⟨(P_app.mp hP).1, (P_app.mp hP).2⟩) hK⟩ rfl rfl hl.1 rfl (lv_room (Nat.le_of_ble_eq_true rfl)) d_U_resultOf_33 ⟨Nat.le_of_ble_eq_true rfl, Nat.le_of_ble_eq_true rfl⟩) ?_
    rw [hQ]; exact retRl hx hb hr hlocks (by first | (simp only [resF, if_neg c_1_0, if_pos c_1_7]; done) | simp [resF, c_1_0, c_1_7]) d_U_resultOf_36
  refine lv_lookup (off := 36) (tgt := 37) hx hb d_U_resultOf_1 (by decide) (by rw [lv_osw c_1_0 (by decide), lv_osw c_1_7 (by decide)] <;> rfl) (by decide) ?_
  refine lv_iload_n hx hb d_U_resultOf_37 rfl (lv_at hl 1 rfl) ?_
  refine lv_aload_n hx hb d_U_resultOf_38 rfl (lv_at hl 0 rfl) ?_
  refine lv_iload_n hx hb d_U_resultOf_39 rfl (lv_at hl 2 rfl) ?_
  refine goRl (va_runV (As := [.int a]) (rest := [.int op]) ⟨hx, hb, hml, hown, hts⟩ (c_U_load l D cI cL cO u0 u1 u2 hg sp en bb g a) (cwV 1 hts (gBIG (m4 k_ml_U_63 k_im_U_load k_sel_U_load k_ini_U) k_co_U_load) rfl rfl rfl (by decide +kernel) ⟨Nat.le_of_ble_eq_true rfl, Nat.le_of_ble_eq_true rfl⟩) ⟨PR.bl, va_recv hK.1 (P_app.mpr ⟨(P_app.mp hP).1, (P_app.mp hP).2⟩) (ci := 2) (q0 := 0) rfl rfl, PR.pre (P_app.mpr ⟨(P_app.mp hP).1, (P_app.mp hP).2⟩) hK⟩ rfl rfl hl.1 rfl (lv_room (Nat.le_of_ble_eq_true rfl)) d_U_resultOf_40 ⟨Nat.le_of_ble_eq_true rfl, Nat.le_of_ble_eq_true rfl⟩) ?_
  refine lv_aload_n hx hb d_U_resultOf_43 rfl (lv_at hl 0 rfl) ?_
  refine lv_iload_n hx hb d_U_resultOf_44 rfl (lv_at hl 3 rfl) ?_
  refine goRl (va_runV (As := [.int x]) (rest := [.long (ldF g a), .int op]) ⟨hx, hb, hml, hown, hts⟩ (c_U_load l D cI cL cO u0 u1 u2 hg sp en bb g x) (cwV 1 hts (gBIG (m4 k_ml_U_63 k_im_U_load k_sel_U_load k_ini_U) k_co_U_load) rfl rfl rfl (by decide +kernel) ⟨Nat.le_of_ble_eq_true rfl, Nat.le_of_ble_eq_true rfl⟩) ⟨PR.bl, va_recv hK.1 (P_app.mpr ⟨(P_app.mp hP).1, (P_app.mp hP).2⟩) (ci := 2) (q0 := 0) rfl rfl, PR.pre (P_app.mpr ⟨(P_app.mp hP).1, (P_app.mp hP).2⟩) hK⟩ rfl rfl hl.1 rfl (lv_room (Nat.le_of_ble_eq_true rfl)) d_U_resultOf_45 ⟨Nat.le_of_ble_eq_true rfl, Nat.le_of_ble_eq_true rfl⟩) ?_
  refine goRl (va_runS (As := [.int op, .long (ldF g a), .long (ldF g x)]) (rest := []) ⟨hx, hb, hml, hown, hts⟩ (c_U_worked l D cI cL cO op (ldF g a) (ldF g x)) (cwS 3 hts (gBIG (m3 k_ml_U_75 k_st_U_worked k_ini_U) k_co_U_worked) rfl rfl rfl (by decide +kernel) ⟨Nat.le_of_ble_eq_true rfl, Nat.le_of_ble_eq_true rfl⟩) ⟨PR.bl, PR.pre P_nil hK⟩ rfl rfl hl.1 rfl (lv_room (Nat.le_of_ble_eq_true rfl)) d_U_resultOf_48 ⟨Nat.le_of_ble_eq_true rfl, Nat.le_of_ble_eq_true rfl⟩) ?_
  rw [hQ]; exact retRl hx hb hr hlocks (by first | (simp only [resF, if_neg c_1_0, if_neg c_1_7]; done) | simp [resF, c_1_0, c_1_7]) d_U_resultOf_51

abbrev w_U_workOnPile : List Cond := .code y_U_workOnPile b_U_workOnPile 6 none :: BIG
set_option maxHeartbeats 4000000 in
set_option maxRecDepth 100000 in
theorem c_U_workOnPile (l : Launch) (D : va_G) (cI cL cO : ClassId) (u0 : Nat) (u1 : Nat) (u2 : Nat) (hg : Int32) (sp : Int32) (en : Int32) (bb : Int32) (pl : FL) (fr : va_W) (op : Int32) (hh : 0 ≤ hg.toInt ∧ hg.toInt ≤ 4) : CMv l y_U_workOnPile w_U_workOnPile ({ frames := 1, cells := 0, slots := 0, locals := 24 }) D cI cL cO [.ref u0, .int op] ((wU u0 u1 u2 hg sp en bb) ++ ((wL4 cL u2 pl) ++ fr)) (fun u : Pi => u = woF op (pl, hg) ∧ (0 ≤ u.2.toInt ∧ u.2.toInt ≤ 4)) (fun u : Pi => ((wU u0 u1 u2 u.2 sp en bb) ++ ((wL4 cL u2 u.1) ++ fr))) 0 0 := by
  refine ofMv (cc := b_U_workOnPile) (maxL := 6) (ret := none) (by decide) rfl (Nat.le_of_ble_eq_true rfl) ?_
  intro p e s m below meth c A ls H Q hQ hx hb hr hlocks hin hts hown hml hP hK hD hS hA hl
  have hl : lv_has ls 6 [(0, .ref u0), (1, .int op)] := hl
  have hown : s.vm.findClass R_U = some m.cls := hown
  have ht : ∀ w ∈ BIG, w.before _ s = true := fun w h => hts w (List.mem_cons_of_mem _ h)
  refine lv_aload_n hx hb d_U_workOnPile_0 rfl (lv_at hl 0 rfl) ?_
  refine goMl (va_runV (As := []) (rest := []) ⟨hx, hb, hml, hown, hts⟩ (c_U_pop l D cI cL cO u0 u1 u2 hg sp en bb pl fr hh H.size) (cwV 0 hts (gBIG (m4 k_ml_U_96 k_im_U_pop k_sel_U_pop k_ini_U) k_co_U_pop) rfl rfl rfl (by decide +kernel) ⟨Nat.le_of_ble_eq_true rfl, Nat.le_of_ble_eq_true rfl⟩) ⟨PM.bl, va_recv hK.1 hP (ci := 2) (q0 := 0) rfl rfl, PM.pre hP hD hK⟩ rfl rfl hl.1 rfl (lv_room (Nat.le_of_ble_eq_true rfl)) d_U_workOnPile_1 ⟨Nat.le_of_ble_eq_true rfl, Nat.le_of_ble_eq_true rfl⟩) hD hS hA (fun r_1 u H locs hw hP hD hS => ?_)
  obtain ⟨hg_1, rfl⟩ : ∃ z, z = u := ⟨_, rfl⟩
  have e_1 : r_1 = poV (pl, hg) ∧ hg_1 = poH (pl, hg) ∧ (0 ≤ hg_1.toInt ∧ hg_1.toInt ≤ 4) := hw
  have hP : va_P D vwCl ((wU u0 u1 u2 hg_1 sp en bb) ++ ((wL4 cL u2 pl) ++ fr)) H := hP
  have hD : va_D A ((wU u0 u1 u2 hg_1 sp en bb) ++ ((wL4 cL u2 pl) ++ fr)) := hD
  refine lv_lstore_n (lv' := [(2, .long r_1), (0, .ref u0), (1, .int op)]) hx hb d_U_workOnPile_4 rfl hl (by decide) rfl (fun ls hl => ?_)
  refine lv_aload_n hx hb d_U_workOnPile_5 rfl (lv_at hl 1 rfl) ?_
  refine goMl (va_runV (As := []) (rest := []) ⟨hx, hb, hml, hown, hts⟩ (c_U_pop l D cI cL cO u0 u1 u2 hg_1 sp en bb pl fr e_1.2.2 H.size) (cwV 0 hts (gBIG (m4 k_ml_U_96 k_im_U_pop k_sel_U_pop k_ini_U) k_co_U_pop) rfl rfl rfl (by decide +kernel) ⟨Nat.le_of_ble_eq_true rfl, Nat.le_of_ble_eq_true rfl⟩) ⟨PM.bl, va_recv hK.1 hP (ci := 2) (q0 := 0) rfl rfl, PM.pre hP hD hK⟩ rfl rfl hl.1 rfl (lv_room (Nat.le_of_ble_eq_true rfl)) d_U_workOnPile_6 ⟨Nat.le_of_ble_eq_true rfl, Nat.le_of_ble_eq_true rfl⟩) hD hS hA (fun r_6 u H locs hw hP hD hS => ?_)
  obtain ⟨hg_6, rfl⟩ : ∃ z, z = u := ⟨_, rfl⟩
  have e_6 : r_6 = poV (pl, hg_1) ∧ hg_6 = poH (pl, hg_1) ∧ (0 ≤ hg_6.toInt ∧ hg_6.toInt ≤ 4) := hw
  have hP : va_P D vwCl ((wU u0 u1 u2 hg_6 sp en bb) ++ ((wL4 cL u2 pl) ++ fr)) H := hP
  have hD : va_D A ((wU u0 u1 u2 hg_6 sp en bb) ++ ((wL4 cL u2 pl) ++ fr)) := hD
  refine lv_lstore (lv' := [(4, .long r_6), (2, .long r_1), (0, .ref u0), (1, .int op)]) hx hb d_U_workOnPile_9 hl (by decide) rfl (fun ls hl => ?_)
  refine lv_aload_n hx hb d_U_workOnPile_11 rfl (lv_at hl 2 rfl) ?_
  refine lv_iload_n hx hb d_U_workOnPile_12 rfl (lv_at hl 3 rfl) ?_
  refine lv_lload hx hb d_U_workOnPile_13 (lv_at hl 0 rfl) ?_
  refine lv_lload_n hx hb d_U_workOnPile_15 rfl (lv_at hl 1 rfl) ?_
  refine goRl (va_runS (As := [.int op, .long r_6, .long r_1]) (rest := [.ref u0]) ⟨hx, hb, hml, hown, hts⟩ (c_U_worked l D cI cL cO op r_6 r_1) (cwS 3 hts (gBIG (m3 k_ml_U_75 k_st_U_worked k_ini_U) k_co_U_worked) rfl rfl rfl (by decide +kernel) ⟨Nat.le_of_ble_eq_true rfl, Nat.le_of_ble_eq_true rfl⟩) ⟨PR.bl, PR.pre P_nil hK⟩ rfl rfl hl.1 rfl (lv_room (Nat.le_of_ble_eq_true rfl)) d_U_workOnPile_16 ⟨Nat.le_of_ble_eq_true rfl, Nat.le_of_ble_eq_true rfl⟩) ?_
  refine goMv (va_runV (As := [.long (workedF op r_6 r_1)]) (rest := []) ⟨hx, hb, hml, hown, hts⟩ (c_U_push l D cI cL cO u0 u1 u2 hg_6 sp en bb pl fr (workedF op r_6 r_1) e_6.2.2 H.size) (cwV 1 hts (gBIG (m4 k_ml_U_92 k_im_U_push k_sel_U_push k_ini_U) k_co_U_push) rfl rfl rfl (by decide +kernel) ⟨Nat.le_of_ble_eq_true rfl, Nat.le_of_ble_eq_true rfl⟩) ⟨PM.bl, va_recv hK.1 hP (ci := 2) (q0 := 0) rfl rfl, PM.pre hP hD hK⟩ rfl rfl hl.1 rfl (lv_room (Nat.le_of_ble_eq_true rfl)) d_U_workOnPile_19 ⟨Nat.le_of_ble_eq_true rfl, Nat.le_of_ble_eq_true rfl⟩) hD hS hA (fun u H locs hw hP hD hS => ?_)
  obtain ⟨pl_19, hg_19⟩ := u
  have e_19 : (pl_19, hg_19) = puF (workedF op r_6 r_1) (pl, hg_6) ∧ (0 ≤ (pl_19, hg_19).2.toInt ∧ (pl_19, hg_19).2.toInt ≤ 4) := hw
  have hP : va_P D vwCl ((wU u0 u1 u2 hg_19 sp en bb) ++ ((wL4 cL u2 pl_19) ++ fr)) H := hP
  have hD : va_D A ((wU u0 u1 u2 hg_19 sp en bb) ++ ((wL4 cL u2 pl_19) ++ fr)) := hD
  rw [hQ]; exact retMv (w1 := fun u : Pi => ((wU u0 u1 u2 u.2 sp en bb) ++ ((wL4 cL u2 u.1) ++ fr))) (pl_19, hg_19) hx hb hr hlocks hP hD hS ⟨by rw [e_19.1, e_6.2.1, e_6.1, e_1.2.1, e_1.1]; rfl, e_19.2⟩ d_U_workOnPile_22
