abbrev w_U_follow : List Cond := .code y_U_follow b_U_follow 4 (some .int) :: BIG
set_option maxHeartbeats 4000000 in
set_option maxRecDepth 100000 in
theorem c_U_follow (l : Launch) (D : va_G) (cI cL cO : ClassId) (u0 : Nat) (u1 : Nat) (u2 : Nat) (hg : Int32) (sp : Int32) (en : Int32) (bb : Int32) (g : FL) (pl : FL) (h0 : Nat) (q1 : Nat) (q2 : Nat) (q3 : Nat) (q4 : Nat) (q5 : Nat) (o : Fn) (f : Fn) (ee : Fn) (t : Fn) (b : Fn) (ic : Int32) (bc : Int32) (sa : Int32) (gn : Int32) (fr : va_W) (at1 : Int32) (cd : Int32) (hh : 0 ≤ hg.toInt ∧ hg.toInt ≤ 4) : CMi l y_U_follow w_U_follow ({ frames := 4, cells := 0, slots := 0, locals := 84 }) D cI cL cO [.ref u0, .ref h0, .int at1, .int cd] ((wU u0 u1 u2 hg sp en bb) ++ ((wL4 cL u1 g) ++ ((wL4 cL u2 pl) ++ ((wB cI h0 q1 q2 q3 q4 q5 o f ee t b ic bc sa gn) ++ fr)))) (fun (r : Int32) (u : FL × FL × Int32 × Int32) => (r, u.1, (u.2.1, u.2.2.1), u.2.2.2) = foF b bc at1 cd g (pl, hg) sp ∧ (0 ≤ u.2.2.1.toInt ∧ u.2.2.1.toInt ≤ 4)) (fun u : FL × FL × Int32 × Int32 => ((wU u0 u1 u2 u.2.2.1 u.2.2.2 en bb) ++ ((wL4 cL u1 u.1) ++ ((wL4 cL u2 u.2.1) ++ ((wB cI h0 q1 q2 q3 q4 q5 o f ee t b ic bc sa gn) ++ fr))))) 0 0 := by
  refine ofMi (cc := b_U_follow) (maxL := 4) (ret := (some .int)) (by decide) rfl (Nat.le_of_ble_eq_true rfl) ?_
  intro p e s m below meth c A ls H Q hQ hx hb hr hlocks hin hts hown hml hP hK hD hS hA hl
  have hl : lv_has ls 4 [(0, .ref u0), (1, .ref h0), (2, .int at1), (3, .int cd)] := hl
  have hown : s.vm.findClass R_U = some m.cls := hown
  have ht : ∀ w ∈ BIG, w.before _ s = true := fun w h => hts w (List.mem_cons_of_mem _ h)
  refine lv_iload_n hx hb d_U_follow_0 rfl (lv_at hl 3 rfl) ?_
  by_cases c_1_1 : cd = 1
  · refine lv_lookup (off := 51) (tgt := 52) hx hb d_U_follow_1 (by decide) (by rw [c_1_1] <;> rfl) (by decide) ?_
    refine lv_aload_n hx hb d_U_follow_52 rfl (lv_at hl 0 rfl) ?_
    refine lv_aload_n hx hb d_U_follow_53 rfl (lv_at hl 0 rfl) ?_
    refine lv_aload_n hx hb d_U_follow_54 rfl (lv_at hl 1 rfl) ?_
    refine lv_iload_n hx hb d_U_follow_55 rfl (lv_at hl 2 rfl) ?_
    refine lv_iconst (v := 1) hx hb d_U_follow_56 (by decide) ?_
    refine lv_iadd hx hb d_U_follow_57 ?_
    refine goRi (va_runVN (As := [.int (at1 + 1)]) (rest := [.ref u0, .ref u0]) ⟨hx, hb, hml, hown, hts⟩ (c_B_read l D cI cL cO h0 q1 q2 q3 q4 q5 o f ee t b ic bc sa gn (at1 + 1)) ⟨va_cnB 1 hts (gB0 k_co_B_read) rfl rfl rfl (hK.2 _ n_ml_U_80) (ht _ k_ini_B) (by decide +kernel) ⟨Nat.le_of_ble_eq_true rfl, Nat.le_of_ble_eq_true rfl⟩, ht _ k_im_B_read, ht _ k_sel_B_read⟩ ⟨PR.bl, va_recv hK.1 ((P_app.mp (P_app.mp (P_app.mp (P_app.mp hP).2).2).2).1) (ci := 0) (q0 := 0) rfl rfl, PR.pre ((P_app.mp (P_app.mp (P_app.mp (P_app.mp hP).2).2).2).1) hK⟩ rfl rfl hl.1 rfl (lv_room (Nat.le_of_ble_eq_true rfl)) d_U_follow_58 ⟨Nat.le_of_ble_eq_true rfl, Nat.le_of_ble_eq_true rfl⟩) ?_
    refine goRl (va_runV (As := [.int (rdF b bc (at1 + 1))]) (rest := [.ref u0]) ⟨hx, hb, hml, hown, hts⟩ (c_U_load l D cI cL cO u0 u1 u2 hg sp en bb g (rdF b bc (at1 + 1))) (cwV 1 hts (gBIG (m4 k_ml_U_63 k_im_U_load k_sel_U_load k_ini_U) k_co_U_load) rfl rfl rfl (by decide +kernel) ⟨Nat.le_of_ble_eq_true rfl, Nat.le_of_ble_eq_true rfl⟩) ⟨PR.bl, va_recv hK.1 (P_app.mpr ⟨(P_app.mp hP).1, (P_app.mp (P_app.mp hP).2).1⟩) (ci := 2) (q0 := 0) rfl rfl, PR.pre (P_app.mpr ⟨(P_app.mp hP).1, (P_app.mp (P_app.mp hP).2).1⟩) hK⟩ rfl rfl hl.1 rfl (lv_room (Nat.le_of_ble_eq_true rfl)) d_U_follow_61 ⟨Nat.le_of_ble_eq_true rfl, Nat.le_of_ble_eq_true rfl⟩) ?_
    have hP := P_sw1 hP
    have hD := D_sw1 hD
    refine goMv (va_runV (As := [.long (ldF g (rdF b bc (at1 + 1)))]) (rest := []) ⟨hx, hb, hml, hown, hts⟩ (c_U_push l D cI cL cO u0 u1 u2 hg sp en bb pl ((wL4 cL u1 g) ++ ((wB cI h0 q1 q2 q3 q4 q5 o f ee t b ic bc sa gn) ++ fr)) (ldF g (rdF b bc (at1 + 1))) hh H.size) (cwV 1 hts (gBIG (m4 k_ml_U_92 k_im_U_push k_sel_U_push k_ini_U) k_co_U_push) rfl rfl rfl (by decide +kernel) ⟨Nat.le_of_ble_eq_true rfl, Nat.le_of_ble_eq_true rfl⟩) ⟨PM.bl, va_recv hK.1 hP (ci := 2) (q0 := 0) rfl rfl, PM.pre hP hD hK⟩ rfl rfl hl.1 rfl (lv_room (Nat.le_of_ble_eq_true rfl)) d_U_follow_64 ⟨Nat.le_of_ble_eq_true rfl, Nat.le_of_ble_eq_true rfl⟩) hD hS hA (fun u H locs hw hP hD hS => ?_)
    obtain ⟨pl_64, hg_64⟩ := u
    have e_64 : (pl_64, hg_64) = puF (ldF g (rdF b bc (at1 + 1))) (pl, hg) ∧ (0 ≤ (pl_64, hg_64).2.toInt ∧ (pl_64, hg_64).2.toInt ≤ 4) := hw
    have hP : va_P D vwCl ((wU u0 u1 u2 hg_64 sp en bb) ++ ((wL4 cL u2 pl_64) ++ ((wL4 cL u1 g) ++ ((wB cI h0 q1 q2 q3 q4 q5 o f ee t b ic bc sa gn) ++ fr)))) H := hP
    have hD : va_D A ((wU u0 u1 u2 hg_64 sp en bb) ++ ((wL4 cL u2 pl_64) ++ ((wL4 cL u1 g) ++ ((wB cI h0 q1 q2 q3 q4 q5 o f ee t b ic bc sa gn) ++ fr)))) := hD
    have hP := P_sw1 hP
    have hD := D_sw1 hD
    have hP : va_P D vwCl ((wU u0 u1 u2 hg_64 sp en bb) ++ ((wL4 cL u1 g) ++ ((wL4 cL u2 pl_64) ++ ((wB cI h0 q1 q2 q3 q4 q5 o f ee t b ic bc sa gn) ++ fr)))) H := hP
    have hD : va_D A ((wU u0 u1 u2 hg_64 sp en bb) ++ ((wL4 cL u1 g) ++ ((wL4 cL u2 pl_64) ++ ((wB cI h0 q1 q2 q3 q4 q5 o f ee t b ic bc sa gn) ++ fr)))) := hD
    refine lv_goto (tgt := 163) hx hb d_U_follow_67 (by decide) ?_
    refine lv_iload_n hx hb d_U_follow_163 rfl (lv_at hl 2 rfl) ?_
    refine lv_iload_n hx hb d_U_follow_164 rfl (lv_at hl 3 rfl) ?_
    refine goRi (va_runSN (As := [.int cd]) (rest := [.int at1]) ⟨hx, hb, hml, hown, hts⟩ (c_M_lengthOf l D cI cL cO cd) ⟨va_cnB 1 hts (gB0 k_co_M_lengthOf) rfl rfl rfl (hK.2 _ n_ml_U_110) (ht _ k_ini_M) (by decide +kernel) ⟨Nat.le_of_ble_eq_true rfl, Nat.le_of_ble_eq_true rfl⟩, ht _ k_st_M_lengthOf, trivial⟩ ⟨PR.bl, PR.pre P_nil hK⟩ rfl rfl hl.1 rfl (lv_room (Nat.le_of_ble_eq_true rfl)) d_U_follow_165 ⟨Nat.le_of_ble_eq_true rfl, Nat.le_of_ble_eq_true rfl⟩) ?_
    refine lv_iadd hx hb d_U_follow_168 ?_
    rw [hQ]; exact retMi (w1 := fun u : FL × FL × Int32 × Int32 => ((wU u0 u1 u2 u.2.2.1 u.2.2.2 en bb) ++ ((wL4 cL u1 u.1) ++ ((wL4 cL u2 u.2.1) ++ ((wB cI h0 q1 q2 q3 q4 q5 o f ee t b ic bc sa gn) ++ fr))))) (g, pl_64, hg_64, sp) hx hb hr hlocks hP hD hS ⟨(by rw [e_64.1]; simp only [foF, poF, if_pos c_1_1]), e_64.2⟩ d_U_follow_169
  by_cases c_1_2 : cd = 2
  · refine lv_lookup (off := 69) (tgt := 70) hx hb d_U_follow_1 (by decide) (by rw [c_1_2] <;> rfl) (by decide) ?_
    refine lv_aload_n hx hb d_U_follow_70 rfl (lv_at hl 0 rfl) ?_
    refine lv_aload_n hx hb d_U_follow_71 rfl (lv_at hl 1 rfl) ?_
    refine lv_iload_n hx hb d_U_follow_72 rfl (lv_at hl 2 rfl) ?_
    refine lv_iconst (v := 1) hx hb d_U_follow_73 (by decide) ?_
    refine lv_iadd hx hb d_U_follow_74 ?_
    refine goRi (va_runVN (As := [.int (at1 + 1)]) (rest := [.ref u0]) ⟨hx, hb, hml, hown, hts⟩ (c_B_read l D cI cL cO h0 q1 q2 q3 q4 q5 o f ee t b ic bc sa gn (at1 + 1)) ⟨va_cnB 1 hts (gB0 k_co_B_read) rfl rfl rfl (hK.2 _ n_ml_U_80) (ht _ k_ini_B) (by decide +kernel) ⟨Nat.le_of_ble_eq_true rfl, Nat.le_of_ble_eq_true rfl⟩, ht _ k_im_B_read, ht _ k_sel_B_read⟩ ⟨PR.bl, va_recv hK.1 ((P_app.mp (P_app.mp (P_app.mp (P_app.mp hP).2).2).2).1) (ci := 0) (q0 := 0) rfl rfl, PR.pre ((P_app.mp (P_app.mp (P_app.mp (P_app.mp hP).2).2).2).1) hK⟩ rfl rfl hl.1 rfl (lv_room (Nat.le_of_ble_eq_true rfl)) d_U_follow_75 ⟨Nat.le_of_ble_eq_true rfl, Nat.le_of_ble_eq_true rfl⟩) ?_
    refine lv_aload_n hx hb d_U_follow_78 rfl (lv_at hl 0 rfl) ?_
    have hP := P_sw1 hP
    have hD := D_sw1 hD
    refine goMl (va_runV (As := []) (rest := [.int (rdF b bc (at1 + 1)), .ref u0]) ⟨hx, hb, hml, hown, hts⟩ (c_U_pop l D cI cL cO u0 u1 u2 hg sp en bb pl ((wL4 cL u1 g) ++ ((wB cI h0 q1 q2 q3 q4 q5 o f ee t b ic bc sa gn) ++ fr)) hh H.size) (cwV 0 hts (gBIG (m4 k_ml_U_96 k_im_U_pop k_sel_U_pop k_ini_U) k_co_U_pop) rfl rfl rfl (by decide +kernel) ⟨Nat.le_of_ble_eq_true rfl, Nat.le_of_ble_eq_true rfl⟩) ⟨PM.bl, va_recv hK.1 hP (ci := 2) (q0 := 0) rfl rfl, PM.pre hP hD hK⟩ rfl rfl hl.1 rfl (lv_room (Nat.le_of_ble_eq_true rfl)) d_U_follow_79 ⟨Nat.le_of_ble_eq_true rfl, Nat.le_of_ble_eq_true rfl⟩) hD hS hA (fun r_79 u H locs hw hP hD hS => ?_)
    obtain ⟨hg_79, rfl⟩ : ∃ z, z = u := ⟨_, rfl⟩
    have e_79 : r_79 = poV (pl, hg) ∧ hg_79 = poH (pl, hg) ∧ (0 ≤ hg_79.toInt ∧ hg_79.toInt ≤ 4) := hw
    have hP : va_P D vwCl ((wU u0 u1 u2 hg_79 sp en bb) ++ ((wL4 cL u2 pl) ++ ((wL4 cL u1 g) ++ ((wB cI h0 q1 q2 q3 q4 q5 o f ee t b ic bc sa gn) ++ fr)))) H := hP
    have hD : va_D A ((wU u0 u1 u2 hg_79 sp en bb) ++ ((wL4 cL u2 pl) ++ ((wL4 cL u1 g) ++ ((wB cI h0 q1 q2 q3 q4 q5 o f ee t b ic bc sa gn) ++ fr)))) := hD
    have hP := P_sw1 hP
    have hD := D_sw1 hD
    have hP : va_P D vwCl ((wU u0 u1 u2 hg_79 sp en bb) ++ ((wL4 cL u1 g) ++ ((wL4 cL u2 pl) ++ ((wB cI h0 q1 q2 q3 q4 q5 o f ee t b ic bc sa gn) ++ fr)))) H := hP
    have hD : va_D A ((wU u0 u1 u2 hg_79 sp en bb) ++ ((wL4 cL u1 g) ++ ((wL4 cL u2 pl) ++ ((wB cI h0 q1 q2 q3 q4 q5 o f ee t b ic bc sa gn) ++ fr)))) := hD
    refine goMv (va_runV (As := [.int (rdF b bc (at1 + 1)), .long r_79]) (rest := []) ⟨hx, hb, hml, hown, hts⟩ (c_U_store l D cI cL cO u0 u1 u2 hg_79 sp en bb g ((wL4 cL u2 pl) ++ ((wB cI h0 q1 q2 q3 q4 q5 o f ee t b ic bc sa gn) ++ fr)) (rdF b bc (at1 + 1)) r_79 H.size) (cwV 2 hts (gBIG (m4 k_ml_U_71 k_im_U_store k_sel_U_store k_ini_U) k_co_U_store) rfl rfl rfl (by decide +kernel) ⟨Nat.le_of_ble_eq_true rfl, Nat.le_of_ble_eq_true rfl⟩) ⟨PM.bl, va_recv hK.1 hP (ci := 2) (q0 := 0) rfl rfl, PM.pre hP hD hK⟩ rfl rfl hl.1 rfl (lv_room (Nat.le_of_ble_eq_true rfl)) d_U_follow_82 ⟨Nat.le_of_ble_eq_true rfl, Nat.le_of_ble_eq_true rfl⟩) hD hS hA (fun u H locs hw hP hD hS => ?_)
    obtain ⟨g_82, rfl⟩ : ∃ z, z = u := ⟨_, rfl⟩
    have e_82 : g_82 = stF g (rdF b bc (at1 + 1)) r_79 := hw
    have hP : va_P D vwCl ((wU u0 u1 u2 hg_79 sp en bb) ++ ((wL4 cL u1 g_82) ++ ((wL4 cL u2 pl) ++ ((wB cI h0 q1 q2 q3 q4 q5 o f ee t b ic bc sa gn) ++ fr)))) H := hP
    have hD : va_D A ((wU u0 u1 u2 hg_79 sp en bb) ++ ((wL4 cL u1 g_82) ++ ((wL4 cL u2 pl) ++ ((wB cI h0 q1 q2 q3 q4 q5 o f ee t b ic bc sa gn) ++ fr)))) := hD
    refine lv_aload_n hx hb d_U_follow_85 rfl (lv_at hl 0 rfl) ?_
    refine lv_dup hx hb d_U_follow_86 rfl ?_
    refine va_get (ci := 2) (v := .int sp) (C := R_U) (T := T_U) (N := 6) hx hb ht in_U hown hK.1 hP 0 rfl rfl 3 (by decide) (ht _ k_fl_U_31) (fun _ h9 => h9) rfl d_U_follow_87 ?_
    refine lv_iconst (v := 1) hx hb d_U_follow_90 (by decide) ?_
    refine lv_iadd hx hb d_U_follow_91 ?_
    refine va_put (ci := 2) (v := .int (sp + 1)) (ty := .int) (C := R_U) (T := T_U) (N := 6) hx hb ht in_U t_U t_U_ok n_U hown hK.1 hP hD hS 0 rfl rfl 3 (by decide) (ht _ k_fl_U_31) (fun _ h9 => h9) rfl (by decide +kernel) rfl rfl (Nat.le_of_ble_eq_true rfl) d_U_follow_92 (fun H locs hP hD hS => ?_)
    have hP : va_P D vwCl ((wU u0 u1 u2 hg_79 (sp + 1) en bb) ++ ((wL4 cL u1 g_82) ++ ((wL4 cL u2 pl) ++ ((wB cI h0 q1 q2 q3 q4 q5 o f ee t b ic bc sa gn) ++ fr)))) H := hP
    have hD : va_D A ((wU u0 u1 u2 hg_79 (sp + 1) en bb) ++ ((wL4 cL u1 g_82) ++ ((wL4 cL u2 pl) ++ ((wB cI h0 q1 q2 q3 q4 q5 o f ee t b ic bc sa gn) ++ fr)))) := hD
    refine lv_goto (tgt := 163) hx hb d_U_follow_95 (by decide) ?_
    refine lv_iload_n hx hb d_U_follow_163 rfl (lv_at hl 2 rfl) ?_
    refine lv_iload_n hx hb d_U_follow_164 rfl (lv_at hl 3 rfl) ?_
    refine goRi (va_runSN (As := [.int cd]) (rest := [.int at1]) ⟨hx, hb, hml, hown, hts⟩ (c_M_lengthOf l D cI cL cO cd) ⟨va_cnB 1 hts (gB0 k_co_M_lengthOf) rfl rfl rfl (hK.2 _ n_ml_U_110) (ht _ k_ini_M) (by decide +kernel) ⟨Nat.le_of_ble_eq_true rfl, Nat.le_of_ble_eq_true rfl⟩, ht _ k_st_M_lengthOf, trivial⟩ ⟨PR.bl, PR.pre P_nil hK⟩ rfl rfl hl.1 rfl (lv_room (Nat.le_of_ble_eq_true rfl)) d_U_follow_165 ⟨Nat.le_of_ble_eq_true rfl, Nat.le_of_ble_eq_true rfl⟩) ?_
    refine lv_iadd hx hb d_U_follow_168 ?_
    rw [hQ]; exact retMi (w1 := fun u : FL × FL × Int32 × Int32 => ((wU u0 u1 u2 u.2.2.1 u.2.2.2 en bb) ++ ((wL4 cL u1 u.1) ++ ((wL4 cL u2 u.2.1) ++ ((wB cI h0 q1 q2 q3 q4 q5 o f ee t b ic bc sa gn) ++ fr))))) (g_82, pl, hg_79, sp + 1) hx hb hr hlocks hP hD hS ⟨(by simp only [foF, poF, if_neg c_1_1, if_pos c_1_2, e_82, ← e_79.1, e_79.2.1]), e_79.2.2⟩ d_U_follow_169
  by_cases c_1_3 : cd = 3
  · refine lv_lookup (off := 97) (tgt := 98) hx hb d_U_follow_1 (by decide) (by rw [c_1_3] <;> rfl) (by decide) ?_
    refine lv_aload_n hx hb d_U_follow_98 rfl (lv_at hl 0 rfl) ?_
    refine lv_aload_n hx hb d_U_follow_99 rfl (lv_at hl 1 rfl) ?_
    refine lv_iload_n hx hb d_U_follow_100 rfl (lv_at hl 2 rfl) ?_
    refine lv_iconst (v := 1) hx hb d_U_follow_101 (by decide) ?_
    refine lv_iadd hx hb d_U_follow_102 ?_
    refine goRi (va_runVN (As := [.int (at1 + 1)]) (rest := [.ref u0]) ⟨hx, hb, hml, hown, hts⟩ (c_B_readFour l D cI cL cO h0 q1 q2 q3 q4 q5 o f ee t b ic bc sa gn (at1 + 1)) ⟨va_cnB 1 hts (gB0 k_co_B_readFour) rfl rfl rfl (hK.2 _ n_ml_U_100) (ht _ k_ini_B) (by decide +kernel) ⟨Nat.le_of_ble_eq_true rfl, Nat.le_of_ble_eq_true rfl⟩, ht _ k_im_B_readFour, ht _ k_sel_B_readFour⟩ ⟨PR.bl, va_recv hK.1 ((P_app.mp (P_app.mp (P_app.mp (P_app.mp hP).2).2).2).1) (ci := 0) (q0 := 0) rfl rfl, PR.pre ((P_app.mp (P_app.mp (P_app.mp (P_app.mp hP).2).2).2).1) hK⟩ rfl rfl hl.1 rfl (lv_room (Nat.le_of_ble_eq_true rfl)) d_U_follow_103 ⟨Nat.le_of_ble_eq_true rfl, Nat.le_of_ble_eq_true rfl⟩) ?_
    refine lv_i2l (v := (rd4F b bc (at1 + 1)).toInt64) hx hb d_U_follow_106 rfl ?_
    have hP := P_sw1 hP
    have hD := D_sw1 hD
    refine goMv (va_runV (As := [.long ((rd4F b bc (at1 + 1)).toInt64)]) (rest := []) ⟨hx, hb, hml, hown, hts⟩ (c_U_push l D cI cL cO u0 u1 u2 hg sp en bb pl ((wL4 cL u1 g) ++ ((wB cI h0 q1 q2 q3 q4 q5 o f ee t b ic bc sa gn) ++ fr)) ((rd4F b bc (at1 + 1)).toInt64) hh H.size) (cwV 1 hts (gBIG (m4 k_ml_U_92 k_im_U_push k_sel_U_push k_ini_U) k_co_U_push) rfl rfl rfl (by decide +kernel) ⟨Nat.le_of_ble_eq_true rfl, Nat.le_of_ble_eq_true rfl⟩) ⟨PM.bl, va_recv hK.1 hP (ci := 2) (q0 := 0) rfl rfl, PM.pre hP hD hK⟩ rfl rfl hl.1 rfl (lv_room (Nat.le_of_ble_eq_true rfl)) d_U_follow_107 ⟨Nat.le_of_ble_eq_true rfl, Nat.le_of_ble_eq_true rfl⟩) hD hS hA (fun u H locs hw hP hD hS => ?_)
    obtain ⟨pl_107, hg_107⟩ := u
    have e_107 : (pl_107, hg_107) = puF ((rd4F b bc (at1 + 1)).toInt64) (pl, hg) ∧ (0 ≤ (pl_107, hg_107).2.toInt ∧ (pl_107, hg_107).2.toInt ≤ 4) := hw
    have hP : va_P D vwCl ((wU u0 u1 u2 hg_107 sp en bb) ++ ((wL4 cL u2 pl_107) ++ ((wL4 cL u1 g) ++ ((wB cI h0 q1 q2 q3 q4 q5 o f ee t b ic bc sa gn) ++ fr)))) H := hP
    have hD : va_D A ((wU u0 u1 u2 hg_107 sp en bb) ++ ((wL4 cL u2 pl_107) ++ ((wL4 cL u1 g) ++ ((wB cI h0 q1 q2 q3 q4 q5 o f ee t b ic bc sa gn) ++ fr)))) := hD
    have hP := P_sw1 hP
    have hD := D_sw1 hD
    have hP : va_P D vwCl ((wU u0 u1 u2 hg_107 sp en bb) ++ ((wL4 cL u1 g) ++ ((wL4 cL u2 pl_107) ++ ((wB cI h0 q1 q2 q3 q4 q5 o f ee t b ic bc sa gn) ++ fr)))) H := hP
    have hD : va_D A ((wU u0 u1 u2 hg_107 sp en bb) ++ ((wL4 cL u1 g) ++ ((wL4 cL u2 pl_107) ++ ((wB cI h0 q1 q2 q3 q4 q5 o f ee t b ic bc sa gn) ++ fr)))) := hD
    refine lv_goto (tgt := 163) hx hb d_U_follow_110 (by decide) ?_
    refine lv_iload_n hx hb d_U_follow_163 rfl (lv_at hl 2 rfl) ?_
    refine lv_iload_n hx hb d_U_follow_164 rfl (lv_at hl 3 rfl) ?_
    refine goRi (va_runSN (As := [.int cd]) (rest := [.int at1]) ⟨hx, hb, hml, hown, hts⟩ (c_M_lengthOf l D cI cL cO cd) ⟨va_cnB 1 hts (gB0 k_co_M_lengthOf) rfl rfl rfl (hK.2 _ n_ml_U_110) (ht _ k_ini_M) (by decide +kernel) ⟨Nat.le_of_ble_eq_true rfl, Nat.le_of_ble_eq_true rfl⟩, ht _ k_st_M_lengthOf, trivial⟩ ⟨PR.bl, PR.pre P_nil hK⟩ rfl rfl hl.1 rfl (lv_room (Nat.le_of_ble_eq_true rfl)) d_U_follow_165 ⟨Nat.le_of_ble_eq_true rfl, Nat.le_of_ble_eq_true rfl⟩) ?_
    refine lv_iadd hx hb d_U_follow_168 ?_
    rw [hQ]; exact retMi (w1 := fun u : FL × FL × Int32 × Int32 => ((wU u0 u1 u2 u.2.2.1 u.2.2.2 en bb) ++ ((wL4 cL u1 u.1) ++ ((wL4 cL u2 u.2.1) ++ ((wB cI h0 q1 q2 q3 q4 q5 o f ee t b ic bc sa gn) ++ fr))))) (g, pl_107, hg_107, sp) hx hb hr hlocks hP hD hS ⟨(by rw [e_107.1]; simp only [foF, poF, if_neg c_1_1, if_neg c_1_2, if_pos c_1_3]), e_107.2⟩ d_U_follow_169
  by_cases c_1_9 : cd = 9
  · refine lv_lookup (off := 128) (tgt := 129) hx hb d_U_follow_1 (by decide) (by rw [c_1_9] <;> rfl) (by decide) ?_
    refine lv_aload_n hx hb d_U_follow_129 rfl (lv_at hl 0 rfl) ?_
    refine lv_dup hx hb d_U_follow_130 rfl ?_
    refine va_get (ci := 2) (v := .int sp) (C := R_U) (T := T_U) (N := 6) hx hb ht in_U hown hK.1 hP 0 rfl rfl 3 (by decide) (ht _ k_fl_U_31) (fun _ h9 => h9) rfl d_U_follow_131 ?_
    refine lv_iconst (v := 1) hx hb d_U_follow_134 (by decide) ?_
    refine lv_iadd hx hb d_U_follow_135 ?_
    refine va_put (ci := 2) (v := .int (sp + 1)) (ty := .int) (C := R_U) (T := T_U) (N := 6) hx hb ht in_U t_U t_U_ok n_U hown hK.1 hP hD hS 0 rfl rfl 3 (by decide) (ht _ k_fl_U_31) (fun _ h9 => h9) rfl (by decide +kernel) rfl rfl (Nat.le_of_ble_eq_true rfl) d_U_follow_136 (fun H locs hP hD hS => ?_)
    have hP : va_P D vwCl ((wU u0 u1 u2 hg (sp + 1) en bb) ++ ((wL4 cL u1 g) ++ ((wL4 cL u2 pl) ++ ((wB cI h0 q1 q2 q3 q4 q5 o f ee t b ic bc sa gn) ++ fr)))) H := hP
    have hD : va_D A ((wU u0 u1 u2 hg (sp + 1) en bb) ++ ((wL4 cL u1 g) ++ ((wL4 cL u2 pl) ++ ((wB cI h0 q1 q2 q3 q4 q5 o f ee t b ic bc sa gn) ++ fr)))) := hD
    refine lv_aload_n hx hb d_U_follow_139 rfl (lv_at hl 0 rfl) ?_
    have hP := P_sw1 hP
    have hD := D_sw1 hD
    refine goMl (va_runV (As := []) (rest := []) ⟨hx, hb, hml, hown, hts⟩ (c_U_pop l D cI cL cO u0 u1 u2 hg (sp + 1) en bb pl ((wL4 cL u1 g) ++ ((wB cI h0 q1 q2 q3 q4 q5 o f ee t b ic bc sa gn) ++ fr)) hh H.size) (cwV 0 hts (gBIG (m4 k_ml_U_96 k_im_U_pop k_sel_U_pop k_ini_U) k_co_U_pop) rfl rfl rfl (by decide +kernel) ⟨Nat.le_of_ble_eq_true rfl, Nat.le_of_ble_eq_true rfl⟩) ⟨PM.bl, va_recv hK.1 hP (ci := 2) (q0 := 0) rfl rfl, PM.pre hP hD hK⟩ rfl rfl hl.1 rfl (lv_room (Nat.le_of_ble_eq_true rfl)) d_U_follow_140 ⟨Nat.le_of_ble_eq_true rfl, Nat.le_of_ble_eq_true rfl⟩) hD hS hA (fun r_140 u H locs hw hP hD hS => ?_)
    obtain ⟨hg_140, rfl⟩ : ∃ z, z = u := ⟨_, rfl⟩
    have e_140 : r_140 = poV (pl, hg) ∧ hg_140 = poH (pl, hg) ∧ (0 ≤ hg_140.toInt ∧ hg_140.toInt ≤ 4) := hw
    have hP : va_P D vwCl ((wU u0 u1 u2 hg_140 (sp + 1) en bb) ++ ((wL4 cL u2 pl) ++ ((wL4 cL u1 g) ++ ((wB cI h0 q1 q2 q3 q4 q5 o f ee t b ic bc sa gn) ++ fr)))) H := hP
    have hD : va_D A ((wU u0 u1 u2 hg_140 (sp + 1) en bb) ++ ((wL4 cL u2 pl) ++ ((wL4 cL u1 g) ++ ((wB cI h0 q1 q2 q3 q4 q5 o f ee t b ic bc sa gn) ++ fr)))) := hD
    have hP := P_sw1 hP
    have hD := D_sw1 hD
    have hP : va_P D vwCl ((wU u0 u1 u2 hg_140 (sp + 1) en bb) ++ ((wL4 cL u1 g) ++ ((wL4 cL u2 pl) ++ ((wB cI h0 q1 q2 q3 q4 q5 o f ee t b ic bc sa gn) ++ fr)))) H := hP
    have hD : va_D A ((wU u0 u1 u2 hg_140 (sp + 1) en bb) ++ ((wL4 cL u1 g) ++ ((wL4 cL u2 pl) ++ ((wB cI h0 q1 q2 q3 q4 q5 o f ee t b ic bc sa gn) ++ fr)))) := hD
    refine lv_lconst (v := 0) hx hb d_U_follow_143 (by decide) ?_
    refine W.lcmp hx hb d_U_follow_144 ?_
    refine lv_if_eq (tgt := 163) hx hb d_U_follow_145 (by decide) (fun c_145 => ?_) (fun c_145 => ?_)
    · refine lv_iload_n hx hb d_U_follow_163 rfl (lv_at hl 2 rfl) ?_
      refine lv_iload_n hx hb d_U_follow_164 rfl (lv_at hl 3 rfl) ?_
      refine goRi (va_runSN (As := [.int cd]) (rest := [.int at1]) ⟨hx, hb, hml, hown, hts⟩ (c_M_lengthOf l D cI cL cO cd) ⟨va_cnB 1 hts (gB0 k_co_M_lengthOf) rfl rfl rfl (hK.2 _ n_ml_U_110) (ht _ k_ini_M) (by decide +kernel) ⟨Nat.le_of_ble_eq_true rfl, Nat.le_of_ble_eq_true rfl⟩, ht _ k_st_M_lengthOf, trivial⟩ ⟨PR.bl, PR.pre P_nil hK⟩ rfl rfl hl.1 rfl (lv_room (Nat.le_of_ble_eq_true rfl)) d_U_follow_165 ⟨Nat.le_of_ble_eq_true rfl, Nat.le_of_ble_eq_true rfl⟩) ?_
      refine lv_iadd hx hb d_U_follow_168 ?_
      rw [hQ]; exact retMi (w1 := fun u : FL × FL × Int32 × Int32 => ((wU u0 u1 u2 u.2.2.1 u.2.2.2 en bb) ++ ((wL4 cL u1 u.1) ++ ((wL4 cL u2 u.2.1) ++ ((wB cI h0 q1 q2 q3 q4 q5 o f ee t b ic bc sa gn) ++ fr))))) (g, pl, hg_140, sp + 1) hx hb hr hlocks hP hD hS ⟨(by simp only [foF, poF, if_neg c_1_1, if_neg c_1_2, if_neg c_1_3, if_pos c_1_9, if_pos c_145, ← e_140.1, e_140.2.1]), e_140.2.2⟩ d_U_follow_169
    · refine lv_aload_n hx hb d_U_follow_148 rfl (lv_at hl 1 rfl) ?_
      refine lv_iload_n hx hb d_U_follow_149 rfl (lv_at hl 2 rfl) ?_
      refine lv_iconst (v := 1) hx hb d_U_follow_150 (by decide) ?_
      refine lv_iadd hx hb d_U_follow_151 ?_
      refine goRi (va_runVN (As := [.int (at1 + 1)]) (rest := []) ⟨hx, hb, hml, hown, hts⟩ (c_B_readTwo l D cI cL cO h0 q1 q2 q3 q4 q5 o f ee t b ic bc sa gn (at1 + 1)) ⟨va_cnB 1 hts (gB0 k_co_B_readTwo) rfl rfl rfl (hK.2 _ n_ml_U_103) (ht _ k_ini_B) (by decide +kernel) ⟨Nat.le_of_ble_eq_true rfl, Nat.le_of_ble_eq_true rfl⟩, ht _ k_im_B_readTwo, ht _ k_sel_B_readTwo⟩ ⟨PR.bl, va_recv hK.1 ((P_app.mp (P_app.mp (P_app.mp (P_app.mp hP).2).2).2).1) (ci := 0) (q0 := 0) rfl rfl, PR.pre ((P_app.mp (P_app.mp (P_app.mp (P_app.mp hP).2).2).2).1) hK⟩ rfl rfl hl.1 rfl (lv_room (Nat.le_of_ble_eq_true rfl)) d_U_follow_152 ⟨Nat.le_of_ble_eq_true rfl, Nat.le_of_ble_eq_true rfl⟩) ?_
      rw [hQ]; exact retMi (w1 := fun u : FL × FL × Int32 × Int32 => ((wU u0 u1 u2 u.2.2.1 u.2.2.2 en bb) ++ ((wL4 cL u1 u.1) ++ ((wL4 cL u2 u.2.1) ++ ((wB cI h0 q1 q2 q3 q4 q5 o f ee t b ic bc sa gn) ++ fr))))) (g, pl, hg_140, sp + 1) hx hb hr hlocks hP hD hS ⟨(by simp only [foF, poF, if_neg c_1_1, if_neg c_1_2, if_neg c_1_3, if_pos c_1_9, if_neg c_145, ← e_140.1, e_140.2.1]), e_140.2.2⟩ d_U_follow_155
  by_cases c_1_16 : cd = 16
  · refine lv_lookup (off := 112) (tgt := 113) hx hb d_U_follow_1 (by decide) (by rw [c_1_16] <;> rfl) (by decide) ?_
    refine lv_aload_n hx hb d_U_follow_113 rfl (lv_at hl 0 rfl) ?_
    refine lv_aload_n hx hb d_U_follow_114 rfl (lv_at hl 1 rfl) ?_
    refine lv_iload_n hx hb d_U_follow_115 rfl (lv_at hl 2 rfl) ?_
    refine lv_iconst (v := 1) hx hb d_U_follow_116 (by decide) ?_
    refine lv_iadd hx hb d_U_follow_117 ?_
    refine goRi (va_runVN (As := [.int (at1 + 1)]) (rest := [.ref u0]) ⟨hx, hb, hml, hown, hts⟩ (c_B_read l D cI cL cO h0 q1 q2 q3 q4 q5 o f ee t b ic bc sa gn (at1 + 1)) ⟨va_cnB 1 hts (gB0 k_co_B_read) rfl rfl rfl (hK.2 _ n_ml_U_80) (ht _ k_ini_B) (by decide +kernel) ⟨Nat.le_of_ble_eq_true rfl, Nat.le_of_ble_eq_true rfl⟩, ht _ k_im_B_read, ht _ k_sel_B_read⟩ ⟨PR.bl, va_recv hK.1 ((P_app.mp (P_app.mp (P_app.mp (P_app.mp hP).2).2).2).1) (ci := 0) (q0 := 0) rfl rfl, PR.pre ((P_app.mp (P_app.mp (P_app.mp (P_app.mp hP).2).2).2).1) hK⟩ rfl rfl hl.1 rfl (lv_room (Nat.le_of_ble_eq_true rfl)) d_U_follow_118 ⟨Nat.le_of_ble_eq_true rfl, Nat.le_of_ble_eq_true rfl⟩) ?_
    refine lv_i2b (v := (rdF b bc (at1 + 1)).toInt8.toInt32) hx hb d_U_follow_121 rfl ?_
    refine lv_i2l (v := ((rdF b bc (at1 + 1)).toInt8.toInt32).toInt64) hx hb d_U_follow_122 rfl ?_
    have hP := P_sw1 hP
    have hD := D_sw1 hD
    refine goMv (va_runV (As := [.long (((rdF b bc (at1 + 1)).toInt8.toInt32).toInt64)]) (rest := []) ⟨hx, hb, hml, hown, hts⟩ (c_U_push l D cI cL cO u0 u1 u2 hg sp en bb pl ((wL4 cL u1 g) ++ ((wB cI h0 q1 q2 q3 q4 q5 o f ee t b ic bc sa gn) ++ fr)) (((rdF b bc (at1 + 1)).toInt8.toInt32).toInt64) hh H.size) (cwV 1 hts (gBIG (m4 k_ml_U_92 k_im_U_push k_sel_U_push k_ini_U) k_co_U_push) rfl rfl rfl (by decide +kernel) ⟨Nat.le_of_ble_eq_true rfl, Nat.le_of_ble_eq_true rfl⟩) ⟨PM.bl, va_recv hK.1 hP (ci := 2) (q0 := 0) rfl rfl, PM.pre hP hD hK⟩ rfl rfl hl.1 rfl (lv_room (Nat.le_of_ble_eq_true rfl)) d_U_follow_123 ⟨Nat.le_of_ble_eq_true rfl, Nat.le_of_ble_eq_true rfl⟩) hD hS hA (fun u H locs hw hP hD hS => ?_)
    obtain ⟨pl_123, hg_123⟩ := u
    have e_123 : (pl_123, hg_123) = puF (((rdF b bc (at1 + 1)).toInt8.toInt32).toInt64) (pl, hg) ∧ (0 ≤ (pl_123, hg_123).2.toInt ∧ (pl_123, hg_123).2.toInt ≤ 4) := hw
    have hP : va_P D vwCl ((wU u0 u1 u2 hg_123 sp en bb) ++ ((wL4 cL u2 pl_123) ++ ((wL4 cL u1 g) ++ ((wB cI h0 q1 q2 q3 q4 q5 o f ee t b ic bc sa gn) ++ fr)))) H := hP
    have hD : va_D A ((wU u0 u1 u2 hg_123 sp en bb) ++ ((wL4 cL u2 pl_123) ++ ((wL4 cL u1 g) ++ ((wB cI h0 q1 q2 q3 q4 q5 o f ee t b ic bc sa gn) ++ fr)))) := hD
    have hP := P_sw1 hP
    have hD := D_sw1 hD
    have hP : va_P D vwCl ((wU u0 u1 u2 hg_123 sp en bb) ++ ((wL4 cL u1 g) ++ ((wL4 cL u2 pl_123) ++ ((wB cI h0 q1 q2 q3 q4 q5 o f ee t b ic bc sa gn) ++ fr)))) H := hP
    have hD : va_D A ((wU u0 u1 u2 hg_123 sp en bb) ++ ((wL4 cL u1 g) ++ ((wL4 cL u2 pl_123) ++ ((wB cI h0 q1 q2 q3 q4 q5 o f ee t b ic bc sa gn) ++ fr)))) := hD
    refine lv_goto (tgt := 163) hx hb d_U_follow_126 (by decide) ?_
    refine lv_iload_n hx hb d_U_follow_163 rfl (lv_at hl 2 rfl) ?_
    refine lv_iload_n hx hb d_U_follow_164 rfl (lv_at hl 3 rfl) ?_
    refine goRi (va_runSN (As := [.int cd]) (rest := [.int at1]) ⟨hx, hb, hml, hown, hts⟩ (c_M_lengthOf l D cI cL cO cd) ⟨va_cnB 1 hts (gB0 k_co_M_lengthOf) rfl rfl rfl (hK.2 _ n_ml_U_110) (ht _ k_ini_M) (by decide +kernel) ⟨Nat.le_of_ble_eq_true rfl, Nat.le_of_ble_eq_true rfl⟩, ht _ k_st_M_lengthOf, trivial⟩ ⟨PR.bl, PR.pre P_nil hK⟩ rfl rfl hl.1 rfl (lv_room (Nat.le_of_ble_eq_true rfl)) d_U_follow_165 ⟨Nat.le_of_ble_eq_true rfl, Nat.le_of_ble_eq_true rfl⟩) ?_
    refine lv_iadd hx hb d_U_follow_168 ?_
    rw [hQ]; exact retMi (w1 := fun u : FL × FL × Int32 × Int32 => ((wU u0 u1 u2 u.2.2.1 u.2.2.2 en bb) ++ ((wL4 cL u1 u.1) ++ ((wL4 cL u2 u.2.1) ++ ((wB cI h0 q1 q2 q3 q4 q5 o f ee t b ic bc sa gn) ++ fr))))) (g, pl_123, hg_123, sp) hx hb hr hlocks hP hD hS ⟨(by rw [e_123.1]; simp only [foF, poF, if_neg c_1_1, if_neg c_1_2, if_neg c_1_3, if_neg c_1_9, if_pos c_1_16]), e_123.2⟩ d_U_follow_169
  refine lv_lookup (off := 155) (tgt := 156) hx hb d_U_follow_1 (by decide) (by rw [lv_osw c_1_1 (by decide), lv_osw c_1_2 (by decide), lv_osw c_1_3 (by decide), lv_osw c_1_9 (by decide), lv_osw c_1_16 (by decide)] <;> rfl) (by decide) ?_
  refine lv_aload_n hx hb d_U_follow_156 rfl (lv_at hl 0 rfl) ?_
  refine lv_iload_n hx hb d_U_follow_157 rfl (lv_at hl 3 rfl) ?_
  refine lv_iconst (v := 3) hx hb d_U_follow_158 (by decide) ?_
  refine lv_isub hx hb d_U_follow_159 ?_
  have hP := P_sw1 hP
  have hD := D_sw1 hD
  refine goMv (va_runV (As := [.int (cd - 3)]) (rest := []) ⟨hx, hb, hml, hown, hts⟩ (c_U_workOnPile l D cI cL cO u0 u1 u2 hg sp en bb pl ((wL4 cL u1 g) ++ ((wB cI h0 q1 q2 q3 q4 q5 o f ee t b ic bc sa gn) ++ fr)) (cd - 3) hh H.size) (cwV 1 hts (gBIG (m4 k_ml_U_106 k_im_U_workOnPile k_sel_U_workOnPile k_ini_U) k_co_U_workOnPile) rfl rfl rfl (by decide +kernel) ⟨Nat.le_of_ble_eq_true rfl, Nat.le_of_ble_eq_true rfl⟩) ⟨PM.bl, va_recv hK.1 hP (ci := 2) (q0 := 0) rfl rfl, PM.pre hP hD hK⟩ rfl rfl hl.1 rfl (lv_room (Nat.le_of_ble_eq_true rfl)) d_U_follow_160 ⟨Nat.le_of_ble_eq_true rfl, Nat.le_of_ble_eq_true rfl⟩) hD hS hA (fun u H locs hw hP hD hS => ?_)
  obtain ⟨pl_160, hg_160⟩ := u
  have e_160 : (pl_160, hg_160) = woF (cd - 3) (pl, hg) ∧ (0 ≤ (pl_160, hg_160).2.toInt ∧ (pl_160, hg_160).2.toInt ≤ 4) := hw
  have hP : va_P D vwCl ((wU u0 u1 u2 hg_160 sp en bb) ++ ((wL4 cL u2 pl_160) ++ ((wL4 cL u1 g) ++ ((wB cI h0 q1 q2 q3 q4 q5 o f ee t b ic bc sa gn) ++ fr)))) H := hP
  have hD : va_D A ((wU u0 u1 u2 hg_160 sp en bb) ++ ((wL4 cL u2 pl_160) ++ ((wL4 cL u1 g) ++ ((wB cI h0 q1 q2 q3 q4 q5 o f ee t b ic bc sa gn) ++ fr)))) := hD
  have hP := P_sw1 hP
  have hD := D_sw1 hD
  have hP : va_P D vwCl ((wU u0 u1 u2 hg_160 sp en bb) ++ ((wL4 cL u1 g) ++ ((wL4 cL u2 pl_160) ++ ((wB cI h0 q1 q2 q3 q4 q5 o f ee t b ic bc sa gn) ++ fr)))) H := hP
  have hD : va_D A ((wU u0 u1 u2 hg_160 sp en bb) ++ ((wL4 cL u1 g) ++ ((wL4 cL u2 pl_160) ++ ((wB cI h0 q1 q2 q3 q4 q5 o f ee t b ic bc sa gn) ++ fr)))) := hD
  refine lv_iload_n hx hb d_U_follow_163 rfl (lv_at hl 2 rfl) ?_
  refine lv_iload_n hx hb d_U_follow_164 rfl (lv_at hl 3 rfl) ?_
  refine goRi (va_runSN (As := [.int cd]) (rest := [.int at1]) ⟨hx, hb, hml, hown, hts⟩ (c_M_lengthOf l D cI cL cO cd) ⟨va_cnB 1 hts (gB0 k_co_M_lengthOf) rfl rfl rfl (hK.2 _ n_ml_U_110) (ht _ k_ini_M) (by decide +kernel) ⟨Nat.le_of_ble_eq_true rfl, Nat.le_of_ble_eq_true rfl⟩, ht _ k_st_M_lengthOf, trivial⟩ ⟨PR.bl, PR.pre P_nil hK⟩ rfl rfl hl.1 rfl (lv_room (Nat.le_of_ble_eq_true rfl)) d_U_follow_165 ⟨Nat.le_of_ble_eq_true rfl, Nat.le_of_ble_eq_true rfl⟩) ?_
  refine lv_iadd hx hb d_U_follow_168 ?_
  rw [hQ]; exact retMi (w1 := fun u : FL × FL × Int32 × Int32 => ((wU u0 u1 u2 u.2.2.1 u.2.2.2 en bb) ++ ((wL4 cL u1 u.1) ++ ((wL4 cL u2 u.2.1) ++ ((wB cI h0 q1 q2 q3 q4 q5 o f ee t b ic bc sa gn) ++ fr))))) (g, pl_160, hg_160, sp) hx hb hr hlocks hP hD hS ⟨(by rw [e_160.1]; simp only [foF, poF, if_neg c_1_1, if_neg c_1_2, if_neg c_1_3, if_neg c_1_9, if_neg c_1_16]), e_160.2⟩ d_U_follow_169
