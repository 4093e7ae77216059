abbrev w_U_followBytes : List Cond := .code y_U_followBytes b_U_followBytes 9 none :: BIG
set_option maxHeartbeats 4000000 in
set_option maxRecDepth 100000 in
theorem c_U_followBytes (l : Launch) (D : va_G) (cI cL cO : ClassId) (u0 : Nat) (u1 : Nat) (u2 : Nat) (hg : Int32) (sp : Int32) (en : Int32) (bb : Int32) (g : FL) (pl : FL) (h0 : Nat) (q1 : Nat) (q2 : Nat) (q3 : Nat) (q4 : Nat) (q5 : Nat) (o : Fn) (f : Fn) (ee : Fn) (t : Fn) (b : Fn) (ic : Int32) (bc : Int32) (sa : Int32) (gn : Int32) (fr : va_W) (x : Int64) (y : Int64) : CMv l y_U_followBytes w_U_followBytes ({ frames := 5, cells := 0, slots := 0, locals := 107 }) D cI cL cO [.ref u0, .ref h0, .long x, .long y] ((wU u0 u1 u2 hg sp en bb) ++ ((wL4 cL u1 g) ++ ((wL4 cL u2 pl) ++ ((wB cI h0 q1 q2 q3 q4 q5 o f ee t b ic bc sa gn) ++ fr)))) (fun u : FL × FL × Int32 × Int32 × Int32 × Int32 => (u.1, (u.2.1, u.2.2.1), u.2.2.2.1, u.2.2.2.2.1) = byF b bc x y pl ∧ u.2.2.2.2.2 = 1) (fun u : FL × FL × Int32 × Int32 × Int32 × Int32 => ((wU u0 u1 u2 u.2.2.1 u.2.2.2.1 u.2.2.2.2.1 u.2.2.2.2.2) ++ ((wL4 cL u1 u.1) ++ ((wL4 cL u2 u.2.1) ++ ((wB cI h0 q1 q2 q3 q4 q5 o f ee t b ic bc sa gn) ++ fr))))) 0 0 := by
  refine ofMv (cc := b_U_followBytes) (maxL := 9) (ret := none) (by decide) rfl (Nat.le_of_ble_eq_true rfl) ?_
  intro p e s m below meth c A ls H Q hQ hx hb hr hlocks hin hts hown hml hP hK hD hS hA hl
  have hl : lv_has ls 9 [(0, .ref u0), (1, .ref h0), (2, .long x), (4, .long y)] := hl
  have hown : s.vm.findClass R_U = some m.cls := hown
  have ht : ∀ w ∈ BIG, w.before _ s = true := fun w h => hts w (List.mem_cons_of_mem _ h)
  refine lv_aload_n hx hb d_U_followBytes_0 rfl (lv_at hl 0 rfl) ?_
  refine lv_lload_n hx hb d_U_followBytes_1 rfl (lv_at hl 2 rfl) ?_
  refine lv_lload hx hb d_U_followBytes_2 (lv_at hl 3 rfl) ?_
  refine lv_iconst (v := 1) hx hb d_U_followBytes_4 (by decide) ?_
  refine goMv (va_runV (As := [.long x, .long y, .int 1]) (rest := []) ⟨hx, hb, hml, hown, hts⟩ (c_U_begin l D cI cL cO u0 u1 u2 hg sp en bb g ((wL4 cL u2 pl) ++ ((wB cI h0 q1 q2 q3 q4 q5 o f ee t b ic bc sa gn) ++ fr)) x y 1 rfl rfl H.size) (cwV 3 hts (gBIG (m4 k_ml_U_38 k_im_U_begin k_sel_U_begin k_ini_U) k_co_U_begin) rfl rfl rfl (by decide +kernel) ⟨Nat.le_of_ble_eq_true rfl, Nat.le_of_ble_eq_true rfl⟩) ⟨PM.bl, va_recv hK.1 hP (ci := 2) (q0 := 0) rfl rfl, PM.pre hP hD hK⟩ rfl rfl hl.1 rfl (lv_room (Nat.le_of_ble_eq_true rfl)) d_U_followBytes_5 ⟨Nat.le_of_ble_eq_true rfl, Nat.le_of_ble_eq_true rfl⟩) hD hS hA (fun u H locs hw hP hD hS => ?_)
  obtain ⟨g_5, hg_5, sp_5, en_5, bb_5⟩ := u
  have e_5 : (g_5, hg_5, sp_5, en_5, bb_5) = (begR x y, 0, 0, 0, 1) := hw
  have hP : va_P D vwCl ((wU u0 u1 u2 hg_5 sp_5 en_5 bb_5) ++ ((wL4 cL u1 g_5) ++ ((wL4 cL u2 pl) ++ ((wB cI h0 q1 q2 q3 q4 q5 o f ee t b ic bc sa gn) ++ fr)))) H := hP
  have hD : va_D A ((wU u0 u1 u2 hg_5 sp_5 en_5 bb_5) ++ ((wL4 cL u1 g_5) ++ ((wL4 cL u2 pl) ++ ((wB cI h0 q1 q2 q3 q4 q5 o f ee t b ic bc sa gn) ++ fr)))) := hD
  obtain ⟨eg, eh, es9, ee9, eb⟩ : g_5 = begR x y ∧ hg_5 = 0 ∧ sp_5 = 0 ∧ en_5 = 0 ∧ bb_5 = 1 := by simpa only [Prod.mk.injEq] using e_5
  refine lv_iconst (v := 0) hx hb d_U_followBytes_8 (by decide) ?_
  refine lv_istore (lv' := [(6, .int 0), (0, .ref u0), (1, .ref h0), (2, .long x), (4, .long y)]) hx hb d_U_followBytes_9 hl (by decide) rfl (fun ls hl => ?_)
  refine lv_iconst (v := 0) hx hb d_U_followBytes_11 (by decide) ?_
  refine lv_istore (lv' := [(7, .int 0), (6, .int 0), (0, .ref u0), (1, .ref h0), (2, .long x), (4, .long y)]) hx hb d_U_followBytes_12 hl (by decide) rfl (fun ls hl => ?_)
  have lp : ∀ (n : Nat) (at1 : Int32) (k : Int32) (g1 : FL) (p1 : FL) (hg1 : Int32) (sp1 : Int32) (H : Heap) (locs : List Loc) (ls : Array Slot), (k.toInt + (n : Int) = 600301) → (0 ≤ k.toInt ∧ k.toInt ≤ 600300) → (0 ≤ hg1.toInt ∧ hg1.toInt ≤ 4) → (byL b bc n k at1 g1 (p1, hg1) sp1 = byF b bc x y pl) → va_P D vwCl ((wU u0 u1 u2 hg1 sp1 en_5 bb_5) ++ ((wL4 cL u1 g1) ++ ((wL4 cL u2 p1) ++ ((wB cI h0 q1 q2 q3 q4 q5 o f ee t b ic bc sa gn) ++ fr)))) H → va_D A ((wU u0 u1 u2 hg1 sp1 en_5 bb_5) ++ ((wL4 cL u1 g1) ++ ((wL4 cL u2 p1) ++ ((wB cI h0 q1 q2 q3 q4 q5 o f ee t b ic bc sa gn) ++ fr)))) → va_S A s.heap H locs → lv_has ls 9 [(0, .ref u0), (1, .ref h0), (2, .long x), (4, .long y), (6, .int at1), (7, .int k)] → W p l e ({ frames := 5, cells := 0, slots := 0, locals := 107 } : Room) s m ([.ref u0, .ref h0, .long x, .long y] : List Value).toArray below meth c H locs 0 0 Q (F0 m 14 ls []) := by
    intro n
    induction n with
    | zero =>
      intro at1 k g1 p1 hg1 sp1 H locs ls hn hi hh hF hP hD hS hl
      exact absurd hn (by omega)
    | succ n ih =>
      intro at1 k g1 p1 hg1 sp1 H locs ls hn hi hh hF hP hD hS hl
      refine lv_iload hx hb d_U_followBytes_14 (lv_at hl 5 rfl) ?_
      refine lv_ldc (v := 600300) hx hb hown (ht _ k_ct_U_79) d_U_followBytes_16 ?_
      refine lv_icmp_ge (tgt := 87) hx hb d_U_followBytes_18 (by decide) (fun c_18 => ?_) (fun c_18 => ?_)
      · refine lv_aload_n hx hb d_U_followBytes_87 rfl (lv_at hl 0 rfl) ?_
        refine lv_iconst (v := 2) hx hb d_U_followBytes_88 (by decide) ?_
        refine va_put (ci := 2) (v := .int 2) (ty := .int) (C := R_U) (T := T_U) (N := 6) hx hb ht in_U t_U t_U_ok n_U hown hK.1 hP hD hS 0 rfl rfl 4 (by decide) (ht _ k_fl_U_18) (fun _ h9 => h9) rfl (by decide +kernel) rfl rfl (Nat.le_of_ble_eq_true rfl) d_U_followBytes_89 (fun H locs hP hD hS => ?_)
        have hP : va_P D vwCl ((wU u0 u1 u2 hg1 sp1 2 bb_5) ++ ((wL4 cL u1 g1) ++ ((wL4 cL u2 p1) ++ ((wB cI h0 q1 q2 q3 q4 q5 o f ee t b ic bc sa gn) ++ fr)))) H := hP
        have hD : va_D A ((wU u0 u1 u2 hg1 sp1 2 bb_5) ++ ((wL4 cL u1 g1) ++ ((wL4 cL u2 p1) ++ ((wB cI h0 q1 q2 q3 q4 q5 o f ee t b ic bc sa gn) ++ fr)))) := hD
        rw [hQ]; exact retMv (w1 := fun u : FL × FL × Int32 × Int32 × Int32 × Int32 => ((wU u0 u1 u2 u.2.2.1 u.2.2.2.1 u.2.2.2.2.1 u.2.2.2.2.2) ++ ((wL4 cL u1 u.1) ++ ((wL4 cL u2 u.2.1) ++ ((wB cI h0 q1 q2 q3 q4 q5 o f ee t b ic bc sa gn) ++ fr))))) (g1, p1, hg1, sp1, 2, bb_5) hx hb hr hlocks hP hD hS ⟨by rw [← hF]; first | (simp only [byL, ee9, if_pos c_18]; done) | simp [byL, ee9, c_18], eb⟩ d_U_followBytes_92
      · refine lv_aload_n hx hb d_U_followBytes_21 rfl (lv_at hl 1 rfl) ?_
        refine lv_iload hx hb d_U_followBytes_22 (lv_at hl 4 rfl) ?_
        refine goRi (va_runVN (As := [.int at1]) (rest := []) ⟨hx, hb, hml, hown, hts⟩ (c_B_read l D cI cL cO h0 q1 q2 q3 q4 q5 o f ee t b ic bc sa gn at1) ⟨va_cnB 1 hts (gB0 k_co_B_read) rfl rfl rfl (hK.2 _ n_ml_U_80) (ht _ k_ini_B) (by decide +kernel) ⟨Nat.le_of_ble_eq_true rfl, Nat.le_of_ble_eq_true rfl⟩, ht _ k_im_B_read, ht _ k_sel_B_read⟩ ⟨PR.bl, va_recv hK.1 ((P_app.mp (P_app.mp (P_app.mp (P_app.mp hP).2).2).2).1) (ci := 0) (q0 := 0) rfl rfl, PR.pre ((P_app.mp (P_app.mp (P_app.mp (P_app.mp hP).2).2).2).1) hK⟩ rfl rfl hl.1 rfl (lv_room (Nat.le_of_ble_eq_true rfl)) d_U_followBytes_24 ⟨Nat.le_of_ble_eq_true rfl, Nat.le_of_ble_eq_true rfl⟩) ?_
        refine lv_istore (lv' := [(8, .int (rdF b bc at1)), (0, .ref u0), (1, .ref h0), (2, .long x), (4, .long y), (6, .int at1), (7, .int k)]) hx hb d_U_followBytes_27 hl (by decide) rfl (fun ls hl => ?_)
        refine lv_iload hx hb d_U_followBytes_29 (lv_at hl 0 rfl) ?_
        refine lv_bipush (v := 10) hx hb d_U_followBytes_31 (by decide) ?_
        refine lv_icmp_ne (tgt := 37) hx hb d_U_followBytes_33 (by decide) (fun c_33 => ?_) (fun c_33 => ?_)
        · refine lv_aload_n hx hb d_U_followBytes_37 rfl (lv_at hl 1 rfl) ?_
          refine va_get (ci := 2) (v := .int sp1) (C := R_U) (T := T_U) (N := 6) hx hb ht in_U hown hK.1 hP 0 rfl rfl 3 (by decide) (ht _ k_fl_U_31) (fun _ h9 => h9) rfl d_U_followBytes_38 ?_
          refine lv_sipush (v := 2000) hx hb d_U_followBytes_41 (by decide) ?_
          refine lv_icmp_lt (tgt := 50) hx hb d_U_followBytes_44 (by decide) (fun c_44 => ?_) (fun c_44 => ?_)
          · refine lv_iload hx hb d_U_followBytes_50 (lv_at hl 0 rfl) ?_
            refine lv_bipush (v := 7) hx hb d_U_followBytes_52 (by decide) ?_
            refine lv_icmp_ne (tgt := 70) hx hb d_U_followBytes_54 (by decide) (fun c_54 => ?_) (fun c_54 => ?_)
            · refine lv_aload_n hx hb d_U_followBytes_70 rfl (lv_at hl 1 rfl) ?_
              refine lv_aload_n hx hb d_U_followBytes_71 rfl (lv_at hl 2 rfl) ?_
              refine lv_iload hx hb d_U_followBytes_72 (lv_at hl 5 rfl) ?_
              refine lv_iload hx hb d_U_followBytes_74 (lv_at hl 0 rfl) ?_
              refine goMi (va_runV (As := [.ref h0, .int at1, .int (rdF b bc at1)]) (rest := []) ⟨hx, hb, hml, hown, hts⟩ (c_U_follow l D cI cL cO u0 u1 u2 hg1 sp1 en_5 bb_5 g1 p1 h0 q1 q2 q3 q4 q5 o f ee t b ic bc sa gn fr at1 (rdF b bc at1) hh H.size) (cwV 3 hts (gBIG (m4 k_ml_U_88 k_im_U_follow k_sel_U_follow k_ini_U) k_co_U_follow) rfl rfl rfl (by decide +kernel) ⟨Nat.le_of_ble_eq_true rfl, Nat.le_of_ble_eq_true rfl⟩) ⟨PM.bl, va_recv hK.1 hP (ci := 2) (q0 := 0) rfl rfl, PM.pre hP hD hK⟩ rfl rfl hl.1 rfl (lv_room (Nat.le_of_ble_eq_true rfl)) d_U_followBytes_76 ⟨Nat.le_of_ble_eq_true rfl, Nat.le_of_ble_eq_true rfl⟩) hD hS hA (fun r_76 u H locs hw hP hD hS => ?_)
              obtain ⟨g_76, pl_76, hg_76, sp_76⟩ := u
              have e_76 : (r_76, g_76, (pl_76, hg_76), sp_76) = foF b bc at1 (rdF b bc at1) g1 (p1, hg1) sp1 ∧ (0 ≤ (g_76, pl_76, hg_76, sp_76).2.2.1.toInt ∧ (g_76, pl_76, hg_76, sp_76).2.2.1.toInt ≤ 4) := hw
              have hP : va_P D vwCl ((wU u0 u1 u2 hg_76 sp_76 en_5 bb_5) ++ ((wL4 cL u1 g_76) ++ ((wL4 cL u2 pl_76) ++ ((wB cI h0 q1 q2 q3 q4 q5 o f ee t b ic bc sa gn) ++ fr)))) H := hP
              have hD : va_D A ((wU u0 u1 u2 hg_76 sp_76 en_5 bb_5) ++ ((wL4 cL u1 g_76) ++ ((wL4 cL u2 pl_76) ++ ((wB cI h0 q1 q2 q3 q4 q5 o f ee t b ic bc sa gn) ++ fr)))) := hD
              refine lv_istore (lv' := [(6, .int r_76), (8, .int (rdF b bc at1)), (0, .ref u0), (1, .ref h0), (2, .long x), (4, .long y), (7, .int k)]) hx hb d_U_followBytes_79 hl (by decide) rfl (fun ls hl => ?_)
              refine lv_iinc (v := k + 1) (lv' := [(7, .int (k + 1)), (6, .int r_76), (8, .int (rdF b bc at1)), (0, .ref u0), (1, .ref h0), (2, .long x), (4, .long y)]) hx hb d_U_followBytes_81 hl (k := 6) rfl rfl (by decide) rfl (fun ls hl => ?_)
              refine lv_goto (tgt := 14) hx hb d_U_followBytes_84 (by decide) ?_
              exact ih r_76 (k + 1) g_76 pl_76 hg_76 sp_76 _ _ ls (by rw [i32_1 (by omega)]; omega) (by rw [i32_1 (by omega)]; have := i_lt c_18; have h3 : (600300 : Int32).toInt = 600300 := (by decide); omega) e_76.2 (by rw [← hF]; first | (simp only [byL, ← e_76.1, if_neg c_18, if_neg c_33, if_pos c_44, if_neg c_54]; done) | simp [byL, ← e_76.1, c_18, c_33, c_44, c_54]) hP hD hS (lv_sub hl [3, 4, 5, 6, 1, 0] rfl)
            · refine lv_aload_n hx hb d_U_followBytes_57 rfl (lv_at hl 1 rfl) ?_
              refine goRi (va_runV (As := []) (rest := []) ⟨hx, hb, hml, hown, hts⟩ (c_U_topIsZero l D cI cL cO u0 u1 u2 hg1 sp1 en_5 bb_5 p1 hh) (cwV 0 hts (gBIG (m4 k_ml_U_84 k_im_U_topIsZero k_sel_U_topIsZero k_ini_U) k_co_U_topIsZero) rfl rfl rfl (by decide +kernel) ⟨Nat.le_of_ble_eq_true rfl, Nat.le_of_ble_eq_true rfl⟩) ⟨PR.bl, va_recv hK.1 (P_app.mpr ⟨(P_app.mp hP).1, (P_app.mp (P_app.mp (P_app.mp hP).2).2).1⟩) (ci := 2) (q0 := 0) rfl rfl, PR.pre (P_app.mpr ⟨(P_app.mp hP).1, (P_app.mp (P_app.mp (P_app.mp hP).2).2).1⟩) hK⟩ rfl rfl hl.1 rfl (lv_room (Nat.le_of_ble_eq_true rfl)) d_U_followBytes_58 ⟨Nat.le_of_ble_eq_true rfl, Nat.le_of_ble_eq_true rfl⟩) ?_
              refine lv_if_eq (tgt := 70) hx hb d_U_followBytes_61 (by decide) (fun c_61 => ?_) (fun c_61 => ?_)
              · refine lv_aload_n hx hb d_U_followBytes_70 rfl (lv_at hl 1 rfl) ?_
                refine lv_aload_n hx hb d_U_followBytes_71 rfl (lv_at hl 2 rfl) ?_
                refine lv_iload hx hb d_U_followBytes_72 (lv_at hl 5 rfl) ?_
                refine lv_iload hx hb d_U_followBytes_74 (lv_at hl 0 rfl) ?_
                refine goMi (va_runV (As := [.ref h0, .int at1, .int (rdF b bc at1)]) (rest := []) ⟨hx, hb, hml, hown, hts⟩ (c_U_follow l D cI cL cO u0 u1 u2 hg1 sp1 en_5 bb_5 g1 p1 h0 q1 q2 q3 q4 q5 o f ee t b ic bc sa gn fr at1 (rdF b bc at1) hh H.size) (cwV 3 hts (gBIG (m4 k_ml_U_88 k_im_U_follow k_sel_U_follow k_ini_U) k_co_U_follow) rfl rfl rfl (by decide +kernel) ⟨Nat.le_of_ble_eq_true rfl, Nat.le_of_ble_eq_true rfl⟩) ⟨PM.bl, va_recv hK.1 hP (ci := 2) (q0 := 0) rfl rfl, PM.pre hP hD hK⟩ rfl rfl hl.1 rfl (lv_room (Nat.le_of_ble_eq_true rfl)) d_U_followBytes_76 ⟨Nat.le_of_ble_eq_true rfl, Nat.le_of_ble_eq_true rfl⟩) hD hS hA (fun r_76 u H locs hw hP hD hS => ?_)
                obtain ⟨g_76, pl_76, hg_76, sp_76⟩ := u
                have e_76 : (r_76, g_76, (pl_76, hg_76), sp_76) = foF b bc at1 (rdF b bc at1) g1 (p1, hg1) sp1 ∧ (0 ≤ (g_76, pl_76, hg_76, sp_76).2.2.1.toInt ∧ (g_76, pl_76, hg_76, sp_76).2.2.1.toInt ≤ 4) := hw
                have hP : va_P D vwCl ((wU u0 u1 u2 hg_76 sp_76 en_5 bb_5) ++ ((wL4 cL u1 g_76) ++ ((wL4 cL u2 pl_76) ++ ((wB cI h0 q1 q2 q3 q4 q5 o f ee t b ic bc sa gn) ++ fr)))) H := hP
                have hD : va_D A ((wU u0 u1 u2 hg_76 sp_76 en_5 bb_5) ++ ((wL4 cL u1 g_76) ++ ((wL4 cL u2 pl_76) ++ ((wB cI h0 q1 q2 q3 q4 q5 o f ee t b ic bc sa gn) ++ fr)))) := hD
                refine lv_istore (lv' := [(6, .int r_76), (8, .int (rdF b bc at1)), (0, .ref u0), (1, .ref h0), (2, .long x), (4, .long y), (7, .int k)]) hx hb d_U_followBytes_79 hl (by decide) rfl (fun ls hl => ?_)
                refine lv_iinc (v := k + 1) (lv' := [(7, .int (k + 1)), (6, .int r_76), (8, .int (rdF b bc at1)), (0, .ref u0), (1, .ref h0), (2, .long x), (4, .long y)]) hx hb d_U_followBytes_81 hl (k := 6) rfl rfl (by decide) rfl (fun ls hl => ?_)
                refine lv_goto (tgt := 14) hx hb d_U_followBytes_84 (by decide) ?_
                exact ih r_76 (k + 1) g_76 pl_76 hg_76 sp_76 _ _ ls (by rw [i32_1 (by omega)]; omega) (by rw [i32_1 (by omega)]; have := i_lt c_18; have h3 : (600300 : Int32).toInt = 600300 := (by decide); omega) e_76.2 (by rw [← hF]; first | (simp only [byL, ← e_76.1, if_neg c_18, if_neg c_33, if_pos c_44, if_pos c_54, if_pos c_61]; done) | simp [byL, ← e_76.1, c_18, c_33, c_44, c_54, c_61]) hP hD hS (lv_sub hl [3, 4, 5, 6, 1, 0] rfl)
              · refine lv_aload_n hx hb d_U_followBytes_64 rfl (lv_at hl 1 rfl) ?_
                refine lv_iconst (v := 1) hx hb d_U_followBytes_65 (by decide) ?_
                refine va_put (ci := 2) (v := .int 1) (ty := .int) (C := R_U) (T := T_U) (N := 6) hx hb ht in_U t_U t_U_ok n_U hown hK.1 hP hD hS 0 rfl rfl 4 (by decide) (ht _ k_fl_U_18) (fun _ h9 => h9) rfl (by decide +kernel) rfl rfl (Nat.le_of_ble_eq_true rfl) d_U_followBytes_66 (fun H locs hP hD hS => ?_)
                have hP : va_P D vwCl ((wU u0 u1 u2 hg1 sp1 1 bb_5) ++ ((wL4 cL u1 g1) ++ ((wL4 cL u2 p1) ++ ((wB cI h0 q1 q2 q3 q4 q5 o f ee t b ic bc sa gn) ++ fr)))) H := hP
                have hD : va_D A ((wU u0 u1 u2 hg1 sp1 1 bb_5) ++ ((wL4 cL u1 g1) ++ ((wL4 cL u2 p1) ++ ((wB cI h0 q1 q2 q3 q4 q5 o f ee t b ic bc sa gn) ++ fr)))) := hD
                rw [hQ]; exact retMv (w1 := fun u : FL × FL × Int32 × Int32 × Int32 × Int32 => ((wU u0 u1 u2 u.2.2.1 u.2.2.2.1 u.2.2.2.2.1 u.2.2.2.2.2) ++ ((wL4 cL u1 u.1) ++ ((wL4 cL u2 u.2.1) ++ ((wB cI h0 q1 q2 q3 q4 q5 o f ee t b ic bc sa gn) ++ fr))))) (g1, p1, hg1, sp1, 1, bb_5) hx hb hr hlocks hP hD hS ⟨by rw [← hF]; first | (simp only [byL, ee9, if_neg c_18, if_neg c_33, if_pos c_44, if_pos c_54, if_neg c_61]; done) | simp [byL, ee9, c_18, c_33, c_44, c_54, c_61], eb⟩ d_U_followBytes_69
          · refine lv_goto (tgt := 87) hx hb d_U_followBytes_47 (by decide) ?_
            refine lv_aload_n hx hb d_U_followBytes_87 rfl (lv_at hl 1 rfl) ?_
            refine lv_iconst (v := 2) hx hb d_U_followBytes_88 (by decide) ?_
            refine va_put (ci := 2) (v := .int 2) (ty := .int) (C := R_U) (T := T_U) (N := 6) hx hb ht in_U t_U t_U_ok n_U hown hK.1 hP hD hS 0 rfl rfl 4 (by decide) (ht _ k_fl_U_18) (fun _ h9 => h9) rfl (by decide +kernel) rfl rfl (Nat.le_of_ble_eq_true rfl) d_U_followBytes_89 (fun H locs hP hD hS => ?_)
            have hP : va_P D vwCl ((wU u0 u1 u2 hg1 sp1 2 bb_5) ++ ((wL4 cL u1 g1) ++ ((wL4 cL u2 p1) ++ ((wB cI h0 q1 q2 q3 q4 q5 o f ee t b ic bc sa gn) ++ fr)))) H := hP
            have hD : va_D A ((wU u0 u1 u2 hg1 sp1 2 bb_5) ++ ((wL4 cL u1 g1) ++ ((wL4 cL u2 p1) ++ ((wB cI h0 q1 q2 q3 q4 q5 o f ee t b ic bc sa gn) ++ fr)))) := hD
            rw [hQ]; exact retMv (w1 := fun u : FL × FL × Int32 × Int32 × Int32 × Int32 => ((wU u0 u1 u2 u.2.2.1 u.2.2.2.1 u.2.2.2.2.1 u.2.2.2.2.2) ++ ((wL4 cL u1 u.1) ++ ((wL4 cL u2 u.2.1) ++ ((wB cI h0 q1 q2 q3 q4 q5 o f ee t b ic bc sa gn) ++ fr))))) (g1, p1, hg1, sp1, 2, bb_5) hx hb hr hlocks hP hD hS ⟨by rw [← hF]; first | (simp only [byL, ee9, if_neg c_18, if_neg c_33, if_neg c_44]; done) | simp [byL, ee9, c_18, c_33, c_44], eb⟩ d_U_followBytes_92
        · rw [hQ]; exact retMv (w1 := fun u : FL × FL × Int32 × Int32 × Int32 × Int32 => ((wU u0 u1 u2 u.2.2.1 u.2.2.2.1 u.2.2.2.2.1 u.2.2.2.2.2) ++ ((wL4 cL u1 u.1) ++ ((wL4 cL u2 u.2.1) ++ ((wB cI h0 q1 q2 q3 q4 q5 o f ee t b ic bc sa gn) ++ fr))))) (g1, p1, hg1, sp1, en_5, bb_5) hx hb hr hlocks hP hD hS ⟨by rw [← hF]; first | (simp only [byL, ee9, if_neg c_18, if_pos c_33]; done) | simp [byL, ee9, c_18, c_33], eb⟩ d_U_followBytes_36
  exact lp 600301 0 0 g_5 pl hg_5 sp_5 _ _ ls (by decide) (by decide) (by rw [eh]; decide) (by rw [eg, eh, es9]; rfl) hP hD hS (lv_sub hl [2, 3, 4, 5, 1, 0] rfl)

abbrev w_U_didAs : List Cond := .code y_U_didAs b_U_didAs 3 (some .boolean) :: BIG
set_option maxHeartbeats 4000000 in
set_option maxRecDepth 100000 in
theorem c_U_didAs (l : Launch) (D : va_G) (cI cL cO : ClassId) (u0 : Nat) (u1 : Nat) (u2 : Nat) (hg : Int32) (sp : Int32) (en : Int32) (bb : Int32) (g : FL) (v0 : Nat) (v1 : Nat) (v2 : Nat) (hg2 : Int32) (sp2 : Int32) (en2 : Int32) (bb2 : Int32) (g2 : FL) : CRi l y_U_didAs w_U_didAs ({ frames := 0, cells := 0, slots := 0, locals := 0 }) D cI cL cO [.ref u0, .ref v0] ((wU u0 u1 u2 hg sp en bb) ++ ((wL4 cL u1 g) ++ ((wU v0 v1 v2 hg2 sp2 en2 bb2) ++ (wL4 cL v1 g2)))) (didL g g2 sp sp2 en en2 5 0) := by
  refine ofR (cc := b_U_didAs) (maxL := 3) (ret := (some .boolean)) (by decide) rfl (Nat.le_of_ble_eq_true rfl) ?_
  intro p e s m below meth c ls Q hQ hx hb hr hlocks hts hown hml hP hK hl
  have hl : lv_has ls 3 [(0, .ref u0), (1, .ref v0)] := hl
  have hown : s.vm.findClass R_U = some m.cls := hown
  have ht : ∀ w ∈ BIG, w.before _ s = true := fun w h => hts w (List.mem_cons_of_mem _ h)
  refine lv_iconst (v := 0) hx hb d_U_didAs_0 (by decide) ?_
  refine lv_istore_n (lv' := [(2, .int 0), (0, .ref u0), (1, .ref v0)]) hx hb d_U_didAs_1 rfl hl (by decide) rfl (fun ls hl => ?_)
  have lp : ∀ (n : Nat) (i : Int32) (ls : Array Slot), (i.toInt + (n : Int) = 5) → (0 ≤ i.toInt ∧ i.toInt ≤ 4) → (didL g g2 sp sp2 en en2 n i = didL g g2 sp sp2 en en2 5 0) → lv_has ls 3 [(0, .ref u0), (1, .ref v0), (2, .int i)] → W p l e ({ frames := 0, cells := 0, slots := 0, locals := 0 } : Room) s m ([.ref u0, .ref v0] : List Value).toArray below meth c s.heap [] 0 0 Q (F0 m 2 ls []) := by
    intro n
    induction n with
    | zero =>
      intro i ls hn hi hF hl
      exact absurd hn (by omega)
    | succ n ih =>
      intro i ls hn hi hF hl
      refine lv_iload_n hx hb d_U_didAs_2 rfl (lv_at hl 2 rfl) ?_
      refine lv_iconst (v := 4) hx hb d_U_didAs_3 (by decide) ?_
      refine lv_icmp_ge (tgt := 31) hx hb d_U_didAs_4 (by decide) (fun c_4 => ?_) (fun c_4 => ?_)
      · refine lv_aload_n hx hb d_U_didAs_31 rfl (lv_at hl 0 rfl) ?_
        refine va_get (ci := 2) (v := .int sp) (C := R_U) (T := T_U) (N := 6) hx hb ht in_U hown hK.1 hP 0 rfl rfl 3 (by decide) (ht _ k_fl_U_31) (fun _ h9 => h9) rfl d_U_didAs_32 ?_
        refine lv_aload_n hx hb d_U_didAs_35 rfl (lv_at hl 1 rfl) ?_
        refine va_get (ci := 2) (v := .int sp2) (C := R_U) (T := T_U) (N := 6) hx hb ht in_U hown hK.1 hP 2 rfl rfl 3 (by decide) (ht _ k_fl_U_31) (fun _ h9 => h9) rfl d_U_didAs_36 ?_
        refine lv_icmp_ne (tgt := 57) hx hb d_U_didAs_39 (by decide) (fun c_39 => ?_) (fun c_39 => ?_)
        · refine lv_iconst (v := 0) hx hb d_U_didAs_57 (by decide) ?_
          rw [hQ]; exact retRz hx hb hr hlocks rfl (by rw [← hF]; first | (simp only [didL, if_pos c_4, if_neg c_39]; done) | simp [didL, c_4, c_39]) d_U_didAs_58
        · refine lv_aload_n hx hb d_U_didAs_42 rfl (lv_at hl 0 rfl) ?_
          refine va_get (ci := 2) (v := .int en) (C := R_U) (T := T_U) (N := 6) hx hb ht in_U hown hK.1 hP 0 rfl rfl 4 (by decide) (ht _ k_fl_U_18) (fun _ h9 => h9) rfl d_U_didAs_43 ?_
          refine lv_aload_n hx hb d_U_didAs_46 rfl (lv_at hl 1 rfl) ?_
          refine va_get (ci := 2) (v := .int en2) (C := R_U) (T := T_U) (N := 6) hx hb ht in_U hown hK.1 hP 2 rfl rfl 4 (by decide) (ht _ k_fl_U_18) (fun _ h9 => h9) rfl d_U_didAs_47 ?_
          refine lv_icmp_ne (tgt := 57) hx hb d_U_didAs_50 (by decide) (fun c_50 => ?_) (fun c_50 => ?_)
          · refine lv_iconst (v := 0) hx hb d_U_didAs_57 (by decide) ?_
            rw [hQ]; exact retRz hx hb hr hlocks rfl (by rw [← hF]; first | (simp only [didL, if_pos c_4, if_pos c_39, if_neg c_50]; done) | simp [didL, c_4, c_39, c_50]) d_U_didAs_58
          · refine lv_iconst (v := 1) hx hb d_U_didAs_53 (by decide) ?_
            refine lv_goto (tgt := 58) hx hb d_U_didAs_54 (by decide) ?_
            rw [hQ]; exact retRz hx hb hr hlocks rfl (by rw [← hF]; first | (simp only [didL, if_pos c_4, if_pos c_39, if_pos c_50]; done) | simp [didL, c_4, c_39, c_50]) d_U_didAs_58
      · refine lv_aload_n hx hb d_U_didAs_7 rfl (lv_at hl 0 rfl) ?_
        refine va_get (ci := 2) (v := .ref u1) (C := R_U) (T := T_U) (N := 6) hx hb ht in_U hown hK.1 hP 0 rfl rfl 0 (by decide) (ht _ k_fl_U_9) (fun _ h9 => h9) rfl d_U_didAs_8 ?_
        refine lv_iload_n hx hb d_U_didAs_11 rfl (lv_at hl 2 rfl) ?_
        refine va_lald hx hb hK.1 hP 1 1 rfl rfl (in_of (N := 4) (by decide) (nn_of hi.1) c_4) d_U_didAs_12 ?_
        refine lv_aload_n hx hb d_U_didAs_13 rfl (lv_at hl 1 rfl) ?_
        refine va_get (ci := 2) (v := .ref v1) (C := R_U) (T := T_U) (N := 6) hx hb ht in_U hown hK.1 hP 2 rfl rfl 0 (by decide) (ht _ k_fl_U_9) (fun _ h9 => h9) rfl d_U_didAs_14 ?_
        refine lv_iload_n hx hb d_U_didAs_17 rfl (lv_at hl 2 rfl) ?_
        refine va_lald hx hb hK.1 hP 3 1 rfl rfl (in_of (N := 4) (by decide) (nn_of hi.1) c_4) d_U_didAs_18 ?_
        refine W.lcmp hx hb d_U_didAs_19 ?_
        refine lv_if_eq (tgt := 25) hx hb d_U_didAs_20 (by decide) (fun c_20 => ?_) (fun c_20 => ?_)
        · refine lv_iinc (v := i + 1) (lv' := [(2, .int (i + 1)), (0, .ref u0), (1, .ref v0)]) hx hb d_U_didAs_25 hl (k := 2) rfl rfl (by decide) rfl (fun ls hl => ?_)
          refine lv_goto (tgt := 2) hx hb d_U_didAs_28 (by decide) ?_
          exact ih (i + 1) ls (by rw [i32_1 (by omega)]; omega) (by rw [i32_1 (by omega)]; have := i_lt c_4; have h3 : (4 : Int32).toInt = 4 := (by decide); omega) (by rw [← hF]; first | (simp only [didL, if_neg c_4, if_pos c_20]; done) | simp [didL, c_4, c_20]) (lv_sub hl [1, 2, 0] rfl)
        · refine lv_iconst (v := 0) hx hb d_U_didAs_23 (by decide) ?_
          rw [hQ]; exact retRz hx hb hr hlocks rfl (by rw [← hF]; first | (simp only [didL, if_neg c_4, if_neg c_20]; done) | simp [didL, c_4, c_20]) d_U_didAs_24
  exact lp 5 0 ls (by decide) (by decide) rfl (lv_sub hl [1, 2, 0] rfl)
