set_option maxHeartbeats 4000000 in
set_option maxRecDepth 100000 in
theorem lc9 {p : Program} {l : Launch} {e : Env} {s : State} {m : MethodId} {below : List Frame} {meth : Method} {c : Code} {D : va_G} {cI cL cO : ClassId} {b L : Nat} {xs : Nat → Int32} {N t0 mi : Nat} {A : Nat → Prop} (hL : L ≤ 3073) (hx : p.tables.exec = Jvm.exec) (hb : c.code = code) (hml : c.maxLocals = 8) (hown : s.vm.findClass R_L = some m.cls) (hts : ∀ w ∈ (Cond.initialized R_L :: BIG), w.before #[Value.ref b] s = true) (ht : ∀ w ∈ BIG, w.before #[Value.ref b] s = true) (hX : va_X b L xs s s.heap) (hbl9 : b < s.heap.size) (hbA : ¬ A b) (hl0 : l.stackTraces = false) (hK : KW D cI cL cO s) (hE : EX N t0 mi s) (hNC : NC s) (hN : N ≤ s.heap.size) (hAN : ∀ q, A q → N ≤ q) (hA : ∀ q : Nat, s.heap.size ≤ q → A q) {x0 z0 o0 i : Nat} {cells slots : Nat} {Q : State → Prop} {H : Heap} {locs : List Loc} {ls : Array Slot} (hi6 : i + 6 ≤ L) (hcells : cells + 8 ≤ 601024) (hslots : slots + 600 ≤ 7293000) (hLS : LSt D cI cL cO A t0 x0 z0 o0 H) (hS : va_S A s.heap H locs) (hl : lv_has ls 8 [(0, .ref b), (1, .ref x0), (2, .ref z0), (3, .ref o0), (4, .int (nI i))])
    (kk : ∀ (H : Heap) (locs : List Loc) (ls : Array Slot), LSt D cI cL cO A t0 x0 z0 o0 H → va_S A s.heap H locs → lv_has ls 8 [(0, .ref b), (1, .ref x0), (2, .ref z0), (3, .ref o0), (4, .int (nI i))] → W p l e room_1 s m #[Value.ref b] below meth c H locs (cells + 7) (slots + 590) Q (F0 m 1041 ls [])) : W p l e room_1 s m #[Value.ref b] below meth c H locs cells slots Q (F0 m 610 ls []) := by
  obtain ⟨w, og, ad, nb, y1, y2, y3, y4, y5, y6, y7, y8, y9, y10, y11, y12, y13, y14, mn, oo, oa, ob, ss, gg, zz, md, sd, da, rg, pp, kp, ot, th, li, bl, nw, wr, ru, al, sp, en, ke, kb, at0, hI, hnb, hbl, hw, hP, hD⟩ := hLS
  obtain ⟨s1, e1⟩ : ∃ z, xs (nI i + 1).toNatClampNeg = z := ⟨_, rfl⟩
  obtain ⟨s2, e2⟩ : ∃ z, xs (nI i + 2).toNatClampNeg = z := ⟨_, rfl⟩
  obtain ⟨s3, e3⟩ : ∃ z, xs (nI i + 3).toNatClampNeg = z := ⟨_, rfl⟩
  obtain ⟨s4, e4⟩ : ∃ z, xs (nI i + 4).toNatClampNeg = z := ⟨_, rfl⟩
  obtain ⟨s5, e5⟩ : ∃ z, xs (nI i + 5).toNatClampNeg = z := ⟨_, rfl⟩
  refine lv_aload_n hx hb d_L_law_610 rfl (lv_at hl 1 rfl) ?_
  refine lv_aload_n hx hb d_L_law_611 rfl (lv_at hl 0 rfl) ?_
  refine lv_iload hx hb d_L_law_612 (lv_at hl 4 rfl) ?_
  refine lv_iconst (v := 1) hx hb d_L_law_614 (by decide) ?_
  refine lv_iadd hx hb d_L_law_615 ?_
  refine va_sld hx hb hX hbl9 hbA hS (vinL (k := 1) hi6 hL (by decide)) d_L_law_616 ?_
  rw [e1]
  refine lv_aload_n hx hb d_L_law_617 rfl (lv_at hl 0 rfl) ?_
  refine lv_iload hx hb d_L_law_618 (lv_at hl 4 rfl) ?_
  refine lv_iconst (v := 2) hx hb d_L_law_620 (by decide) ?_
  refine lv_iadd hx hb d_L_law_621 ?_
  refine va_sld hx hb hX hbl9 hbA hS (vinL (k := 2) hi6 hL (by decide)) d_L_law_622 ?_
  rw [e2]
  refine lv_i2l (v := s2.toInt64) hx hb d_L_law_623 rfl ?_
  refine lv_bipush (v := 32) hx hb d_L_law_624 (by decide) ?_
  refine lv_lshl (v := s2.toInt64 <<< ((32 : Int32).toInt64 &&& 63)) hx hb d_L_law_626 rfl ?_
  refine lv_aload_n hx hb d_L_law_627 rfl (lv_at hl 0 rfl) ?_
  refine lv_iload hx hb d_L_law_628 (lv_at hl 4 rfl) ?_
  refine lv_iconst (v := 3) hx hb d_L_law_630 (by decide) ?_
  refine lv_iadd hx hb d_L_law_631 ?_
  refine va_sld hx hb hX hbl9 hbA hS (vinL (k := 3) hi6 hL (by decide)) d_L_law_632 ?_
  rw [e3]
  refine lv_i2l (v := s3.toInt64) hx hb d_L_law_633 rfl ?_
  refine lv_ldc2 (v := 4294967295) hx hb hown (ht _ k_cl2) d_L_law_634 ?_
  refine lv_land hx hb d_L_law_637 ?_
  refine lv_lor hx hb d_L_law_638 ?_
  refine lv_aload_n hx hb d_L_law_639 rfl (lv_at hl 0 rfl) ?_
  refine lv_iload hx hb d_L_law_640 (lv_at hl 4 rfl) ?_
  refine lv_iconst (v := 4) hx hb d_L_law_642 (by decide) ?_
  refine lv_iadd hx hb d_L_law_643 ?_
  refine va_sld hx hb hX hbl9 hbA hS (vinL (k := 4) hi6 hL (by decide)) d_L_law_644 ?_
  rw [e4]
  refine lv_i2l (v := s4.toInt64) hx hb d_L_law_645 rfl ?_
  refine lv_bipush (v := 32) hx hb d_L_law_646 (by decide) ?_
  refine lv_lshl (v := s4.toInt64 <<< ((32 : Int32).toInt64 &&& 63)) hx hb d_L_law_648 rfl ?_
  refine lv_aload_n hx hb d_L_law_649 rfl (lv_at hl 0 rfl) ?_
  refine lv_iload hx hb d_L_law_650 (lv_at hl 4 rfl) ?_
  refine lv_iconst (v := 5) hx hb d_L_law_652 (by decide) ?_
  refine lv_iadd hx hb d_L_law_653 ?_
  refine va_sld hx hb hX hbl9 hbA hS (vinL (k := 5) hi6 hL (by decide)) d_L_law_654 ?_
  rw [e5]
  refine lv_i2l (v := s5.toInt64) hx hb d_L_law_655 rfl ?_
  refine lv_ldc2 (v := 4294967295) hx hb hown (ht _ k_cl2) d_L_law_656 ?_
  refine lv_land hx hb d_L_law_659 ?_
  refine lv_lor hx hb d_L_law_660 ?_
  refine lv_aload_n hx hb d_L_law_661 rfl (lv_at hl 3 rfl) ?_
  have hP := P_sw1 hP
  have hD := D_sw1 hD
  have hP := P_sw hP
  have hD := D_sw hD
  have hP : va_P D vwCl (w ++ ((wO cL o0 og) ++ ((wZ cI cL z0 y1 y2 y3 y4 y5 y6 y7 y8 y9 y10 y11 y12 y13 y14 mn oo oa ob ss gg zz md sd da rg pp kp ot th li bl nw wr ru al sp en ke kb at0) ++ []))) H := hP
  have hD : va_D A (w ++ ((wO cL o0 og) ++ ((wZ cI cL z0 y1 y2 y3 y4 y5 y6 y7 y8 y9 y10 y11 y12 y13 y14 mn oo oa ob ss gg zz md sd da rg pp kp ot th li bl nw wr ru al sp en ke kb at0) ++ []))) := hD
  refine goMi (runSW (n := 5) (As := [.ref x0, .int s1, .long ((s2.toInt64 <<< ((32 : Int32).toInt64 &&& 63)) ||| (s3.toInt64 &&& 4294967295)), .long ((s4.toInt64 <<< ((32 : Int32).toInt64 &&& 63)) ||| (s5.toInt64 &&& 4294967295)), .ref o0]) (rest := []) hx hb hml hown (h_run (D := D) (cI := cI) (cL := cL) (cO := cO) (N := N) (mi := mi) hl0 hw o0 og ((wZ cI cL z0 y1 y2 y3 y4 y5 y6 y7 y8 y9 y10 y11 y12 y13 y14 mn oo oa ob ss gg zz md sd da rg pp kp ot th li bl nw wr ru al sp en ke kb at0) ++ []) s1 ((s2.toInt64 <<< ((32 : Int32).toInt64 &&& 63)) ||| (s3.toInt64 &&& 4294967295)) ((s4.toInt64 <<< ((32 : Int32).toInt64 &&& 63)) ||| (s5.toInt64 &&& 4294967295)) (hicZ hI hnb) H.size) rfl rfl ⟨Nat.le_of_ble_eq_true rfl, Nat.le_of_ble_eq_true rfl⟩ (hwsW k_co_L_run ht) List.mem_cons_self (ht _ k_co_L_run) k_ini_L ht (by decide +kernel) (by decide +kernel) (ht _ k_ml_L_109) (ht _ k_st_L_run) ⟨PH.bl, PH.pre hP hD hK hE hNC hS hAN hN⟩ rfl rfl hl.1 rfl (lv_room (Nat.le_of_ble_eq_true rfl)) d_L_law_662 ⟨by show _ ≤ 601024; omega, by show _ ≤ 7293000; omega⟩) hD hS hA (fun r1 u H locs hq hP hD hS => ?_)
  obtain ⟨w1, og1, rns1, als1, g1, en1, bb1⟩ := u
  obtain ⟨hw1, hO⟩ := hq
  have hP : va_P D vwCl (w1 ++ ((wO cL o0 og1) ++ ((wZ cI cL z0 y1 y2 y3 y4 y5 y6 y7 y8 y9 y10 y11 y12 y13 y14 mn oo oa ob ss gg zz md sd da rg pp kp ot th li bl nw wr ru al sp en ke kb at0) ++ []))) H := hP
  have hD : va_D A (w1 ++ ((wO cL o0 og1) ++ ((wZ cI cL z0 y1 y2 y3 y4 y5 y6 y7 y8 y9 y10 y11 y12 y13 y14 mn oo oa ob ss gg zz md sd da rg pp kp ot th li bl nw wr ru al sp en ke kb at0) ++ []))) := hD
  have hP := P_sw hP
  have hD := D_sw hD
  have hP := P_sw1 hP
  have hD := D_sw1 hD
  have hP : va_P D vwCl ((wO cL o0 og1) ++ ((wZ cI cL z0 y1 y2 y3 y4 y5 y6 y7 y8 y9 y10 y11 y12 y13 y14 mn oo oa ob ss gg zz md sd da rg pp kp ot th li bl nw wr ru al sp en ke kb at0) ++ (w1 ++ []))) H := hP
  have hD : va_D A ((wO cL o0 og1) ++ ((wZ cI cL z0 y1 y2 y3 y4 y5 y6 y7 y8 y9 y10 y11 y12 y13 y14 mn oo oa ob ss gg zz md sd da rg pp kp ot th li bl nw wr ru al sp en ke kb at0) ++ (w1 ++ []))) := hD
  refine lv_istore (lv' := [(5, .int r1), (0, .ref b), (1, .ref x0), (2, .ref z0), (3, .ref o0), (4, .int (nI i))]) hx hb d_L_law_665 hl (by decide) rfl (fun ls hl => ?_)
  refine lv_aload_n hx hb d_L_law_667 rfl (lv_at hl 3 rfl) ?_
  refine lv_aload_n hx hb d_L_law_668 rfl (lv_at hl 1 rfl) ?_
  refine lv_iload hx hb d_L_law_669 (lv_at hl 5 rfl) ?_
  refine lv_iconst (v := 1) hx hb d_L_law_671 (by decide) ?_
  refine lv_iadd hx hb d_L_law_672 ?_
  refine va_sld hx hb hX hbl9 hbA hS (vinL (k := 1) hi6 hL (by decide)) d_L_law_673 ?_
  rw [e1]
  refine lv_aload_n hx hb d_L_law_674 rfl (lv_at hl 1 rfl) ?_
  refine lv_iload hx hb d_L_law_675 (lv_at hl 5 rfl) ?_
  refine lv_iconst (v := 2) hx hb d_L_law_677 (by decide) ?_
  refine lv_iadd hx hb d_L_law_678 ?_
  refine va_sld hx hb hX hbl9 hbA hS (vinL (k := 2) hi6 hL (by decide)) d_L_law_679 ?_
  rw [e2]
  refine lv_i2l (v := s2.toInt64) hx hb d_L_law_680 rfl ?_
  refine lv_bipush (v := 32) hx hb d_L_law_681 (by decide) ?_
  refine lv_lshl (v := s2.toInt64 <<< ((32 : Int32).toInt64 &&& 63)) hx hb d_L_law_683 rfl ?_
  refine lv_aload_n hx hb d_L_law_684 rfl (lv_at hl 1 rfl) ?_
  refine lv_iload hx hb d_L_law_685 (lv_at hl 5 rfl) ?_
  refine lv_iconst (v := 3) hx hb d_L_law_687 (by decide) ?_
  refine lv_iadd hx hb d_L_law_688 ?_
  refine va_sld hx hb hX hbl9 hbA hS (vinL (k := 3) hi6 hL (by decide)) d_L_law_689 ?_
  rw [e3]
  refine lv_i2l (v := s3.toInt64) hx hb d_L_law_690 rfl ?_
  refine lv_ldc2 (v := 4294967295) hx hb hown (ht _ k_cl2) d_L_law_691 ?_
  refine lv_land hx hb d_L_law_694 ?_
  refine lv_lor hx hb d_L_law_695 ?_
  refine lv_aload_n hx hb d_L_law_696 rfl (lv_at hl 1 rfl) ?_
  refine lv_iload hx hb d_L_law_697 (lv_at hl 5 rfl) ?_
  refine lv_iconst (v := 4) hx hb d_L_law_699 (by decide) ?_
  refine lv_iadd hx hb d_L_law_700 ?_
  refine va_sld hx hb hX hbl9 hbA hS (vinL (k := 4) hi6 hL (by decide)) d_L_law_701 ?_
  rw [e4]
  refine lv_i2l (v := s4.toInt64) hx hb d_L_law_702 rfl ?_
  refine lv_bipush (v := 32) hx hb d_L_law_703 (by decide) ?_
  refine lv_lshl (v := s4.toInt64 <<< ((32 : Int32).toInt64 &&& 63)) hx hb d_L_law_705 rfl ?_
  refine lv_aload_n hx hb d_L_law_706 rfl (lv_at hl 1 rfl) ?_
  refine lv_iload hx hb d_L_law_707 (lv_at hl 5 rfl) ?_
  refine lv_iconst (v := 5) hx hb d_L_law_709 (by decide) ?_
  refine lv_iadd hx hb d_L_law_710 ?_
  refine va_sld hx hb hX hbl9 hbA hS (vinL (k := 5) hi6 hL (by decide)) d_L_law_711 ?_
  rw [e5]
  refine lv_i2l (v := s5.toInt64) hx hb d_L_law_712 rfl ?_
  refine lv_ldc2 (v := 4294967295) hx hb hown (ht _ k_cl2) d_L_law_713 ?_
  refine lv_land hx hb d_L_law_716 ?_
  refine lv_lor hx hb d_L_law_717 ?_
  have hP := P_sw hP
  have hD := D_sw hD
  refine goMi (va_runV (As := [.int s1, .long ((s2.toInt64 <<< ((32 : Int32).toInt64 &&& 63)) ||| (s3.toInt64 &&& 4294967295)), .long ((s4.toInt64 <<< ((32 : Int32).toInt64 &&& 63)) ||| (s5.toInt64 &&& 4294967295))]) (rest := []) ⟨hx, hb, hml, hown, hts⟩ (c_Z_run l D cI cL cO z0 y1 y2 y3 y4 y5 y6 y7 y8 y9 y10 y11 y12 y13 y14 mn oo oa ob ss gg zz md sd da rg pp kp ot th li bl nw wr ru al sp en ke kb at0 ((wO cL o0 og1) ++ (w1 ++ [])) s1 ((s2.toInt64 <<< ((32 : Int32).toInt64 &&& 63)) ||| (s3.toInt64 &&& 4294967295)) ((s4.toInt64 <<< ((32 : Int32).toInt64 &&& 63)) ||| (s5.toInt64 &&& 4294967295)) (bl24 hnb hbl) hI.1 hI.2.1 hI.2.2.1 hI.2.2.2.1 hI.2.2.2.2.1 H.size) (cwV 3 hts (gBIG (m4 k_ml_L_112 k_im_Z_run k_sel_Z_run k_ini_Z) k_co_Z_run) rfl rfl rfl (by decide +kernel) ⟨Nat.le_of_ble_eq_true rfl, Nat.le_of_ble_eq_true rfl⟩) ⟨PM.bl, va_recv hK.1 hP (ci := 5) (q0 := 0) rfl rfl, PM.pre hP hD hK⟩ rfl rfl hl.1 rfl (lv_room (Nat.le_of_ble_eq_true rfl)) d_L_law_718 ⟨by show _ ≤ 601024; omega, by show _ ≤ 7293000; omega⟩) hD hS hA (fun r_718 u H locs hw hP hD hS => ?_)
  obtain ⟨th_718, rg_718, pp_718, sp_718, en_718, kp_718, ke_718, kb_718, ru_718, al_718⟩ := u
  have e_718 : zrnP s1 bl mn oo oa ob ss zz md ((s2.toInt64 <<< ((32 : Int32).toInt64 &&& 63)) ||| (s3.toInt64 &&& 4294967295)) ((s4.toInt64 <<< ((32 : Int32).toInt64 &&& 63)) ||| (s5.toInt64 &&& 4294967295)) pp kp ke kb ru al r_718 th_718 kp_718 ke_718 kb_718 ru_718 al_718 := hw
  have hP : va_P D vwCl ((wZ cI cL z0 y1 y2 y3 y4 y5 y6 y7 y8 y9 y10 y11 y12 y13 y14 mn oo oa ob ss gg zz md sd da rg_718 pp_718 kp_718 ot th_718 li bl nw wr ru_718 al_718 sp_718 en_718 ke_718 kb_718 at0) ++ ((wO cL o0 og1) ++ (w1 ++ []))) H := hP
  have hD : va_D A ((wZ cI cL z0 y1 y2 y3 y4 y5 y6 y7 y8 y9 y10 y11 y12 y13 y14 mn oo oa ob ss gg zz md sd da rg_718 pp_718 kp_718 ot th_718 li bl nw wr ru_718 al_718 sp_718 en_718 ke_718 kb_718 at0) ++ ((wO cL o0 og1) ++ (w1 ++ []))) := hD
  have hP := P_sw hP
  have hD := D_sw hD
  have hP : va_P D vwCl ((wO cL o0 og1) ++ ((wZ cI cL z0 y1 y2 y3 y4 y5 y6 y7 y8 y9 y10 y11 y12 y13 y14 mn oo oa ob ss gg zz md sd da rg_718 pp_718 kp_718 ot th_718 li bl nw wr ru_718 al_718 sp_718 en_718 ke_718 kb_718 at0) ++ (w1 ++ []))) H := hP
  have hD : va_D A ((wO cL o0 og1) ++ ((wZ cI cL z0 y1 y2 y3 y4 y5 y6 y7 y8 y9 y10 y11 y12 y13 y14 mn oo oa ob ss gg zz md sd da rg_718 pp_718 kp_718 ot th_718 li bl nw wr ru_718 al_718 sp_718 en_718 ke_718 kb_718 at0) ++ (w1 ++ []))) := hD
  obtain ⟨q1, q2, q3, q4, q5, q6, q7⟩ := t_run hI hnb hbl hO e_718
  have hw1 : CW cI cL cO t0 x0 li nw wr rns1 als1 nb (bkZ ad mn oo oa ob ss gg zz md) g1 en1 bb1 w1 := hw1
  have q3 : rns1 = ru_718 := q3
  have q4 : als1 = al_718 := q4
  have q5 : g1 = kp_718 := q5
  have q6 : en1 = ke_718 := q6
  have q7 : bb1 = kb_718 := q7
  rw [q3, q4, q5, q6, q7] at hw1
  refine lv_istore (lv' := [(6, .int r_718), (5, .int r1), (0, .ref b), (1, .ref x0), (2, .ref z0), (3, .ref o0), (4, .int (nI i))]) hx hb d_L_law_721 hl (by decide) rfl (fun ls hl => ?_)
  refine lv_aload_n hx hb d_L_law_723 rfl (lv_at hl 4 rfl) ?_
  refine goRi (va_runV (As := []) (rest := []) ⟨hx, hb, hml, hown, hts⟩ (c_Z_thrown l D cI cL cO z0 y1 y2 y3 y4 y5 y6 y7 y8 y9 y10 y11 y12 y13 y14 mn oo oa ob ss gg zz md sd da rg_718 pp_718 kp_718 ot th_718 li bl nw wr ru_718 al_718 sp_718 en_718 ke_718 kb_718 at0) (cwV 0 hts (gBIG (m4 k_ml_L_74 k_im_Z_thrown k_sel_Z_thrown k_ini_Z) k_co_Z_thrown) rfl rfl rfl (by decide +kernel) ⟨Nat.le_of_ble_eq_true rfl, Nat.le_of_ble_eq_true rfl⟩) ⟨PR.bl, va_recv hK.1 ((P_app.mp (P_app.mp hP).2).1) (ci := 5) (q0 := 0) rfl rfl, PR.pre ((P_app.mp (P_app.mp hP).2).1) hK⟩ rfl rfl hl.1 rfl (lv_room (Nat.le_of_ble_eq_true rfl)) d_L_law_724 ⟨by show _ ≤ 601024; omega, by show _ ≤ 7293000; omega⟩) ?_
  refine lv_iload hx hb d_L_law_727 (lv_at hl 1 rfl) ?_
  refine lv_icmp_eq (tgt := 734) hx hb d_L_law_729 (by decide) (fun c_729 => ?_) (fun c_729 => ?_)
  · refine lv_iload hx hb d_L_law_734 (lv_at hl 1 rfl) ?_
    refine lv_if_ne (tgt := 751) hx hb d_L_law_736 (by decide) (fun c_736 => ?_) (fun c_736 => ?_)
    · refine lv_goto (tgt := 1041) hx hb d_L_law_751 (by decide) ?_
      have hP : va_P D vwCl ((wO cL o0 og1) ++ ((wZ cI cL z0 y1 y2 y3 y4 y5 y6 y7 y8 y9 y10 y11 y12 y13 y14 mn oo oa ob ss gg zz md sd da rg_718 pp_718 kp_718 ot th_718 li bl nw wr ru_718 al_718 sp_718 en_718 ke_718 kb_718 at0) ++ (w1 ++ []))) H := hP
      have hD : va_D A ((wO cL o0 og1) ++ ((wZ cI cL z0 y1 y2 y3 y4 y5 y6 y7 y8 y9 y10 y11 y12 y13 y14 mn oo oa ob ss gg zz md sd da rg_718 pp_718 kp_718 ot th_718 li bl nw wr ru_718 al_718 sp_718 en_718 ke_718 kb_718 at0) ++ (w1 ++ []))) := hD
      refine W.widen (k := cells + 7) (n := slots + 590) (by omega) (by omega) ?_
      exact kk H locs ls ⟨w1, og1, ad, nb, y1, y2, y3, y4, y5, y6, y7, y8, y9, y10, y11, y12, y13, y14, mn, oo, oa, ob, ss, gg, zz, md, sd, da, rg_718, pp_718, kp_718, ot, th_718, li, bl, nw, wr, ru_718, al_718, sp_718, en_718, ke_718, kb_718, at0, hI, hnb, hbl, hw1, hP, hD⟩ hS (lv_sub hl [2, 3, 4, 5, 6] rfl)
    · refine lv_aload_n hx hb d_L_law_739 rfl (lv_at hl 5 rfl) ?_
      refine lv_iconst (v := 0) hx hb d_L_law_740 (by decide) ?_
      refine va_lald hx hb hK.1 hP 0 1 rfl rfl (by unfold vp_in; decide) d_L_law_741 ?_
      refine lv_iload hx hb d_L_law_742 (lv_at hl 0 rfl) ?_
      refine lv_i2l (v := r_718.toInt64) hx hb d_L_law_744 rfl ?_
      refine W.lcmp hx hb d_L_law_745 ?_
      refine lv_if_eq (tgt := 751) hx hb d_L_law_746 (by decide) (fun c_746 => ?_) (fun c_746 => ?_)
      · refine lv_goto (tgt := 1041) hx hb d_L_law_751 (by decide) ?_
        have hP : va_P D vwCl ((wO cL o0 og1) ++ ((wZ cI cL z0 y1 y2 y3 y4 y5 y6 y7 y8 y9 y10 y11 y12 y13 y14 mn oo oa ob ss gg zz md sd da rg_718 pp_718 kp_718 ot th_718 li bl nw wr ru_718 al_718 sp_718 en_718 ke_718 kb_718 at0) ++ (w1 ++ []))) H := hP
        have hD : va_D A ((wO cL o0 og1) ++ ((wZ cI cL z0 y1 y2 y3 y4 y5 y6 y7 y8 y9 y10 y11 y12 y13 y14 mn oo oa ob ss gg zz md sd da rg_718 pp_718 kp_718 ot th_718 li bl nw wr ru_718 al_718 sp_718 en_718 ke_718 kb_718 at0) ++ (w1 ++ []))) := hD
        refine W.widen (k := cells + 7) (n := slots + 590) (by omega) (by omega) ?_
        exact kk H locs ls ⟨w1, og1, ad, nb, y1, y2, y3, y4, y5, y6, y7, y8, y9, y10, y11, y12, y13, y14, mn, oo, oa, ob, ss, gg, zz, md, sd, da, rg_718, pp_718, kp_718, ot, th_718, li, bl, nw, wr, ru_718, al_718, sp_718, en_718, ke_718, kb_718, at0, hI, hnb, hbl, hw1, hP, hD⟩ hS (lv_sub hl [2, 3, 4, 5, 6] rfl)
      · exact absurd (lg_eq (q2 c_736)) c_746
  · exact absurd q1 c_729
