set_option maxHeartbeats 4000000 in
set_option maxRecDepth 100000 in
theorem lc12 {p : Program} {l : Launch} {e : Env} {s : State} {m : MethodId} {below : List Frame} {meth : Method} {c : Code} {D : va_G} {cI cL cO : ClassId} {b L : Nat} {xs : Nat → Int32} {N t0 mi : Nat} {A : Nat → Prop} (hL : L ≤ 3073) (hx : p.tables.exec = Jvm.exec) (hb : c.code = code) (hml : c.maxLocals = 8) (hown : s.vm.findClass R_L = some m.cls) (hts : ∀ w ∈ (Cond.initialized R_L :: BIG), w.before #[Value.ref b] s = true) (ht : ∀ w ∈ BIG, w.before #[Value.ref b] s = true) (hX : va_X b L xs s s.heap) (hbl9 : b < s.heap.size) (hbA : ¬ A b) (hl0 : l.stackTraces = false) (hK : KW D cI cL cO s) (hE : EX N t0 mi s) (hNC : NC s) (hN : N ≤ s.heap.size) (hAN : ∀ q, A q → N ≤ q) (hA : ∀ q : Nat, s.heap.size ≤ q → A q) {x0 z0 o0 i : Nat} {cells slots : Nat} {Q : State → Prop} {H : Heap} {locs : List Loc} {ls : Array Slot} (hi6 : i + 6 ≤ L) (hcells : cells + 8 ≤ 601024) (hslots : slots + 600 ≤ 7293000) (hLS : LSt D cI cL cO A t0 x0 z0 o0 H) (hS : va_S A s.heap H locs) (hl : lv_has ls 8 [(0, .ref b), (1, .ref x0), (2, .ref z0), (3, .ref o0), (4, .int (nI i))])
    (kk : ∀ (H : Heap) (locs : List Loc) (ls : Array Slot), LSt D cI cL cO A t0 x0 z0 o0 H → va_S A s.heap H locs → lv_has ls 8 [(0, .ref b), (1, .ref x0), (2, .ref z0), (3, .ref o0), (4, .int (nI i))] → W p l e room_1 s m #[Value.ref b] below meth c H locs (cells + 7) (slots + 590) Q (F0 m 1041 ls [])) : W p l e room_1 s m #[Value.ref b] below meth c H locs cells slots Q (F0 m 865 ls []) := by
  obtain ⟨w, og, ad, nb, y1, y2, y3, y4, y5, y6, y7, y8, y9, y10, y11, y12, y13, y14, mn, oo, oa, ob, ss, gg, zz, md, sd, da, rg, pp, kp, ot, th, li, bl, nw, wr, ru, al, sp, en, ke, kb, at0, hI, hnb, hbl, hw, hP, hD⟩ := hLS
  obtain ⟨s1, e1⟩ : ∃ z, xs (nI i + 1).toNatClampNeg = z := ⟨_, rfl⟩
  obtain ⟨s2, e2⟩ : ∃ z, xs (nI i + 2).toNatClampNeg = z := ⟨_, rfl⟩
  obtain ⟨s3, e3⟩ : ∃ z, xs (nI i + 3).toNatClampNeg = z := ⟨_, rfl⟩
  obtain ⟨s4, e4⟩ : ∃ z, xs (nI i + 4).toNatClampNeg = z := ⟨_, rfl⟩
  obtain ⟨s5, e5⟩ : ∃ z, xs (nI i + 5).toNatClampNeg = z := ⟨_, rfl⟩
  refine lv_aload_n hx hb d_L_law_865 rfl (lv_at hl 1 rfl) ?_
  refine lv_aload_n hx hb d_L_law_866 rfl (lv_at hl 0 rfl) ?_
  refine lv_iload hx hb d_L_law_867 (lv_at hl 4 rfl) ?_
  refine lv_iconst (v := 1) hx hb d_L_law_869 (by decide) ?_
  refine lv_iadd hx hb d_L_law_870 ?_
  refine va_sld hx hb hX hbl9 hbA hS (vinL (k := 1) hi6 hL (by decide)) d_L_law_871 ?_
  rw [e1]
  refine lv_aload_n hx hb d_L_law_872 rfl (lv_at hl 0 rfl) ?_
  refine lv_iload hx hb d_L_law_873 (lv_at hl 4 rfl) ?_
  refine lv_iconst (v := 2) hx hb d_L_law_875 (by decide) ?_
  refine lv_iadd hx hb d_L_law_876 ?_
  refine va_sld hx hb hX hbl9 hbA hS (vinL (k := 2) hi6 hL (by decide)) d_L_law_877 ?_
  rw [e2]
  refine lv_i2l (v := s2.toInt64) hx hb d_L_law_878 rfl ?_
  refine lv_bipush (v := 32) hx hb d_L_law_879 (by decide) ?_
  refine lv_lshl (v := s2.toInt64 <<< ((32 : Int32).toInt64 &&& 63)) hx hb d_L_law_881 rfl ?_
  refine lv_aload_n hx hb d_L_law_882 rfl (lv_at hl 0 rfl) ?_
  refine lv_iload hx hb d_L_law_883 (lv_at hl 4 rfl) ?_
  refine lv_iconst (v := 3) hx hb d_L_law_885 (by decide) ?_
  refine lv_iadd hx hb d_L_law_886 ?_
  refine va_sld hx hb hX hbl9 hbA hS (vinL (k := 3) hi6 hL (by decide)) d_L_law_887 ?_
  rw [e3]
  refine lv_i2l (v := s3.toInt64) hx hb d_L_law_888 rfl ?_
  refine lv_ldc2 (v := 4294967295) hx hb hown (ht _ k_cl2) d_L_law_889 ?_
  refine lv_land hx hb d_L_law_892 ?_
  refine lv_lor hx hb d_L_law_893 ?_
  refine lv_aload_n hx hb d_L_law_894 rfl (lv_at hl 0 rfl) ?_
  refine lv_iload hx hb d_L_law_895 (lv_at hl 4 rfl) ?_
  refine lv_iconst (v := 4) hx hb d_L_law_897 (by decide) ?_
  refine lv_iadd hx hb d_L_law_898 ?_
  refine va_sld hx hb hX hbl9 hbA hS (vinL (k := 4) hi6 hL (by decide)) d_L_law_899 ?_
  rw [e4]
  refine lv_i2l (v := s4.toInt64) hx hb d_L_law_900 rfl ?_
  refine lv_bipush (v := 32) hx hb d_L_law_901 (by decide) ?_
  refine lv_lshl (v := s4.toInt64 <<< ((32 : Int32).toInt64 &&& 63)) hx hb d_L_law_903 rfl ?_
  refine lv_aload_n hx hb d_L_law_904 rfl (lv_at hl 0 rfl) ?_
  refine lv_iload hx hb d_L_law_905 (lv_at hl 4 rfl) ?_
  refine lv_iconst (v := 5) hx hb d_L_law_907 (by decide) ?_
  refine lv_iadd hx hb d_L_law_908 ?_
  refine va_sld hx hb hX hbl9 hbA hS (vinL (k := 5) hi6 hL (by decide)) d_L_law_909 ?_
  rw [e5]
  refine lv_i2l (v := s5.toInt64) hx hb d_L_law_910 rfl ?_
  refine lv_ldc2 (v := 4294967295) hx hb hown (ht _ k_cl2) d_L_law_911 ?_
  refine lv_land hx hb d_L_law_914 ?_
  refine lv_lor hx hb d_L_law_915 ?_
  refine lv_aload_n hx hb d_L_law_916 rfl (lv_at hl 3 rfl) ?_
  have hP := P_sw1 hP
  have hD := D_sw1 hD
  have hP := P_sw hP
  have hD := D_sw hD
  have hP : va_P D vwCl (w ++ ((wO cL o0 og) ++ ((wZ cI cL z0 y1 y2 y3 y4 y5 y6 y7 y8 y9 y10 y11 y12 y13 y14 mn oo oa ob ss gg zz md sd da rg pp kp ot th li bl nw wr ru al sp en ke kb at0) ++ []))) H := hP
  have hD : va_D A (w ++ ((wO cL o0 og) ++ ((wZ cI cL z0 y1 y2 y3 y4 y5 y6 y7 y8 y9 y10 y11 y12 y13 y14 mn oo oa ob ss gg zz md sd da rg pp kp ot th li bl nw wr ru al sp en ke kb at0) ++ []))) := hD
  refine goMi (runSW (n := 5) (As := [.ref x0, .int s1, .long ((s2.toInt64 <<< ((32 : Int32).toInt64 &&& 63)) ||| (s3.toInt64 &&& 4294967295)), .long ((s4.toInt64 <<< ((32 : Int32).toInt64 &&& 63)) ||| (s5.toInt64 &&& 4294967295)), .ref o0]) (rest := []) hx hb hml hown (h_same (D := D) (cI := cI) (cL := cL) (cO := cO) (N := N) (mi := mi) hl0 hw o0 og ((wZ cI cL z0 y1 y2 y3 y4 y5 y6 y7 y8 y9 y10 y11 y12 y13 y14 mn oo oa ob ss gg zz md sd da rg pp kp ot th li bl nw wr ru al sp en ke kb at0) ++ []) s1 ((s2.toInt64 <<< ((32 : Int32).toInt64 &&& 63)) ||| (s3.toInt64 &&& 4294967295)) ((s4.toInt64 <<< ((32 : Int32).toInt64 &&& 63)) ||| (s5.toInt64 &&& 4294967295)) (hicZ hI hnb) H.size) rfl rfl ⟨Nat.le_of_ble_eq_true rfl, Nat.le_of_ble_eq_true rfl⟩ (hwsW k_co_L_same ht) List.mem_cons_self (ht _ k_co_L_same) k_ini_L ht (by decide +kernel) (by decide +kernel) (ht _ k_ml_L_119) (ht _ k_st_L_same) ⟨PH.bl, PH.pre hP hD hK hE hNC hS hAN hN⟩ rfl rfl hl.1 rfl (lv_room (Nat.le_of_ble_eq_true rfl)) d_L_law_917 ⟨by show _ ≤ 601024; omega, by show _ ≤ 7293000; omega⟩) hD hS hA (fun r1 u H locs hq hP hD hS => ?_)
  obtain ⟨w1, og1⟩ := u
  obtain ⟨hw1, hO⟩ := hq
  have hP : va_P D vwCl (w1 ++ ((wO cL o0 og1) ++ ((wZ cI cL z0 y1 y2 y3 y4 y5 y6 y7 y8 y9 y10 y11 y12 y13 y14 mn oo oa ob ss gg zz md sd da rg pp kp ot th li bl nw wr ru al sp en ke kb at0) ++ []))) H := hP
  have hD : va_D A (w1 ++ ((wO cL o0 og1) ++ ((wZ cI cL z0 y1 y2 y3 y4 y5 y6 y7 y8 y9 y10 y11 y12 y13 y14 mn oo oa ob ss gg zz md sd da rg pp kp ot th li bl nw wr ru al sp en ke kb at0) ++ []))) := hD
  have hP := P_sw hP
  have hD := D_sw hD
  have hP := P_sw1 hP
  have hD := D_sw1 hD
  have hP : va_P D vwCl ((wO cL o0 og1) ++ ((wZ cI cL z0 y1 y2 y3 y4 y5 y6 y7 y8 y9 y10 y11 y12 y13 y14 mn oo oa ob ss gg zz md sd da rg pp kp ot th li bl nw wr ru al sp en ke kb at0) ++ (w1 ++ []))) H := hP
  have hD : va_D A ((wO cL o0 og1) ++ ((wZ cI cL z0 y1 y2 y3 y4 y5 y6 y7 y8 y9 y10 y11 y12 y13 y14 mn oo oa ob ss gg zz md sd da rg pp kp ot th li bl nw wr ru al sp en ke kb at0) ++ (w1 ++ []))) := hD
  refine lv_istore (lv' := [(5, .int r1), (0, .ref b), (1, .ref x0), (2, .ref z0), (3, .ref o0), (4, .int (nI i))]) hx hb d_L_law_920 hl (by decide) rfl (fun ls hl => ?_)
  refine lv_aload_n hx hb d_L_law_922 rfl (lv_at hl 3 rfl) ?_
  refine lv_aload_n hx hb d_L_law_923 rfl (lv_at hl 1 rfl) ?_
  refine lv_iload hx hb d_L_law_924 (lv_at hl 5 rfl) ?_
  refine lv_iconst (v := 1) hx hb d_L_law_926 (by decide) ?_
  refine lv_iadd hx hb d_L_law_927 ?_
  refine va_sld hx hb hX hbl9 hbA hS (vinL (k := 1) hi6 hL (by decide)) d_L_law_928 ?_
  rw [e1]
  refine lv_aload_n hx hb d_L_law_929 rfl (lv_at hl 1 rfl) ?_
  refine lv_iload hx hb d_L_law_930 (lv_at hl 5 rfl) ?_
  refine lv_iconst (v := 2) hx hb d_L_law_932 (by decide) ?_
  refine lv_iadd hx hb d_L_law_933 ?_
  refine va_sld hx hb hX hbl9 hbA hS (vinL (k := 2) hi6 hL (by decide)) d_L_law_934 ?_
  rw [e2]
  refine lv_i2l (v := s2.toInt64) hx hb d_L_law_935 rfl ?_
  refine lv_bipush (v := 32) hx hb d_L_law_936 (by decide) ?_
  refine lv_lshl (v := s2.toInt64 <<< ((32 : Int32).toInt64 &&& 63)) hx hb d_L_law_938 rfl ?_
  refine lv_aload_n hx hb d_L_law_939 rfl (lv_at hl 1 rfl) ?_
  refine lv_iload hx hb d_L_law_940 (lv_at hl 5 rfl) ?_
  refine lv_iconst (v := 3) hx hb d_L_law_942 (by decide) ?_
  refine lv_iadd hx hb d_L_law_943 ?_
  refine va_sld hx hb hX hbl9 hbA hS (vinL (k := 3) hi6 hL (by decide)) d_L_law_944 ?_
  rw [e3]
  refine lv_i2l (v := s3.toInt64) hx hb d_L_law_945 rfl ?_
  refine lv_ldc2 (v := 4294967295) hx hb hown (ht _ k_cl2) d_L_law_946 ?_
  refine lv_land hx hb d_L_law_949 ?_
  refine lv_lor hx hb d_L_law_950 ?_
  refine lv_aload_n hx hb d_L_law_951 rfl (lv_at hl 1 rfl) ?_
  refine lv_iload hx hb d_L_law_952 (lv_at hl 5 rfl) ?_
  refine lv_iconst (v := 4) hx hb d_L_law_954 (by decide) ?_
  refine lv_iadd hx hb d_L_law_955 ?_
  refine va_sld hx hb hX hbl9 hbA hS (vinL (k := 4) hi6 hL (by decide)) d_L_law_956 ?_
  rw [e4]
  refine lv_i2l (v := s4.toInt64) hx hb d_L_law_957 rfl ?_
  refine lv_bipush (v := 32) hx hb d_L_law_958 (by decide) ?_
  refine lv_lshl (v := s4.toInt64 <<< ((32 : Int32).toInt64 &&& 63)) hx hb d_L_law_960 rfl ?_
  refine lv_aload_n hx hb d_L_law_961 rfl (lv_at hl 1 rfl) ?_
  refine lv_iload hx hb d_L_law_962 (lv_at hl 5 rfl) ?_
  refine lv_iconst (v := 5) hx hb d_L_law_964 (by decide) ?_
  refine lv_iadd hx hb d_L_law_965 ?_
  refine va_sld hx hb hX hbl9 hbA hS (vinL (k := 5) hi6 hL (by decide)) d_L_law_966 ?_
  rw [e5]
  refine lv_i2l (v := s5.toInt64) hx hb d_L_law_967 rfl ?_
  refine lv_ldc2 (v := 4294967295) hx hb hown (ht _ k_cl2) d_L_law_968 ?_
  refine lv_land hx hb d_L_law_971 ?_
  refine lv_lor hx hb d_L_law_972 ?_
  have hP := P_sw hP
  have hD := D_sw hD
  refine goMi (va_runV (As := [.int s1, .long ((s2.toInt64 <<< ((32 : Int32).toInt64 &&& 63)) ||| (s3.toInt64 &&& 4294967295)), .long ((s4.toInt64 <<< ((32 : Int32).toInt64 &&& 63)) ||| (s5.toInt64 &&& 4294967295))]) (rest := []) ⟨hx, hb, hml, hown, hts⟩ (c_Z_same l D cI cL cO z0 y1 y2 y3 y4 y5 y6 y7 y8 y9 y10 y11 y12 y13 y14 mn oo oa ob ss gg zz md sd da rg pp kp ot th li bl nw wr ru al sp en ke kb at0 ((wO cL o0 og1) ++ (w1 ++ [])) s1 ((s2.toInt64 <<< ((32 : Int32).toInt64 &&& 63)) ||| (s3.toInt64 &&& 4294967295)) ((s4.toInt64 <<< ((32 : Int32).toInt64 &&& 63)) ||| (s5.toInt64 &&& 4294967295)) (bl24 hnb hbl) hI.1 hI.2.1 hI.2.2.1 hI.2.2.2.1 H.size) (cwV 3 hts (gBIG (m4 k_ml_L_121 k_im_Z_same k_sel_Z_same k_ini_Z) k_co_Z_same) rfl rfl rfl (by decide +kernel) ⟨Nat.le_of_ble_eq_true rfl, Nat.le_of_ble_eq_true rfl⟩) ⟨PM.bl, va_recv hK.1 hP (ci := 5) (q0 := 0) rfl rfl, PM.pre hP hD hK⟩ rfl rfl hl.1 rfl (lv_room (Nat.le_of_ble_eq_true rfl)) d_L_law_973 ⟨by show _ ≤ 601024; omega, by show _ ≤ 7293000; omega⟩) hD hS hA (fun r_973 u H locs hw hP hD hS => ?_)
  obtain ⟨th_973, da_973, rg_973, pp_973, sp_973, en_973, ot_973⟩ := u
  have e_973 : zsmP s1 bl mn oo oa ob ss zz md ((s2.toInt64 <<< ((32 : Int32).toInt64 &&& 63)) ||| (s3.toInt64 &&& 4294967295)) ((s4.toInt64 <<< ((32 : Int32).toInt64 &&& 63)) ||| (s5.toInt64 &&& 4294967295)) pp r_973 th_973 := hw
  have hP : va_P D vwCl ((wZ cI cL z0 y1 y2 y3 y4 y5 y6 y7 y8 y9 y10 y11 y12 y13 y14 mn oo oa ob ss gg zz md sd da_973 rg_973 pp_973 kp ot_973 th_973 li bl nw wr ru al sp_973 en_973 ke kb at0) ++ ((wO cL o0 og1) ++ (w1 ++ []))) H := hP
  have hD : va_D A ((wZ cI cL z0 y1 y2 y3 y4 y5 y6 y7 y8 y9 y10 y11 y12 y13 y14 mn oo oa ob ss gg zz md sd da_973 rg_973 pp_973 kp ot_973 th_973 li bl nw wr ru al sp_973 en_973 ke kb at0) ++ ((wO cL o0 og1) ++ (w1 ++ []))) := hD
  have hP := P_sw hP
  have hD := D_sw hD
  have hP : va_P D vwCl ((wO cL o0 og1) ++ ((wZ cI cL z0 y1 y2 y3 y4 y5 y6 y7 y8 y9 y10 y11 y12 y13 y14 mn oo oa ob ss gg zz md sd da_973 rg_973 pp_973 kp ot_973 th_973 li bl nw wr ru al sp_973 en_973 ke kb at0) ++ (w1 ++ []))) H := hP
  have hD : va_D A ((wO cL o0 og1) ++ ((wZ cI cL z0 y1 y2 y3 y4 y5 y6 y7 y8 y9 y10 y11 y12 y13 y14 mn oo oa ob ss gg zz md sd da_973 rg_973 pp_973 kp ot_973 th_973 li bl nw wr ru al sp_973 en_973 ke kb at0) ++ (w1 ++ []))) := hD
  obtain ⟨q1, q2⟩ := t_sam hI hnb hbl hO e_973
  refine lv_istore (lv' := [(6, .int r_973), (5, .int r1), (0, .ref b), (1, .ref x0), (2, .ref z0), (3, .ref o0), (4, .int (nI i))]) hx hb d_L_law_976 hl (by decide) rfl (fun ls hl => ?_)
  refine lv_aload_n hx hb d_L_law_978 rfl (lv_at hl 4 rfl) ?_
  refine goRi (va_runV (As := []) (rest := []) ⟨hx, hb, hml, hown, hts⟩ (c_Z_thrown l D cI cL cO z0 y1 y2 y3 y4 y5 y6 y7 y8 y9 y10 y11 y12 y13 y14 mn oo oa ob ss gg zz md sd da_973 rg_973 pp_973 kp ot_973 th_973 li bl nw wr ru al sp_973 en_973 ke kb at0) (cwV 0 hts (gBIG (m4 k_ml_L_74 k_im_Z_thrown k_sel_Z_thrown k_ini_Z) k_co_Z_thrown) rfl rfl rfl (by decide +kernel) ⟨Nat.le_of_ble_eq_true rfl, Nat.le_of_ble_eq_true rfl⟩) ⟨PR.bl, va_recv hK.1 ((P_app.mp (P_app.mp hP).2).1) (ci := 5) (q0 := 0) rfl rfl, PR.pre ((P_app.mp (P_app.mp hP).2).1) hK⟩ rfl rfl hl.1 rfl (lv_room (Nat.le_of_ble_eq_true rfl)) d_L_law_979 ⟨by show _ ≤ 601024; omega, by show _ ≤ 7293000; omega⟩) ?_
  refine lv_iload hx hb d_L_law_982 (lv_at hl 1 rfl) ?_
  refine lv_icmp_eq (tgt := 989) hx hb d_L_law_984 (by decide) (fun c_984 => ?_) (fun c_984 => ?_)
  · refine lv_iload hx hb d_L_law_989 (lv_at hl 1 rfl) ?_
    refine lv_if_ne (tgt := 1013) hx hb d_L_law_991 (by decide) (fun c_991 => ?_) (fun c_991 => ?_)
    · refine lv_goto (tgt := 1041) hx hb d_L_law_1013 (by decide) ?_
      have hP : va_P D vwCl ((wO cL o0 og1) ++ ((wZ cI cL z0 y1 y2 y3 y4 y5 y6 y7 y8 y9 y10 y11 y12 y13 y14 mn oo oa ob ss gg zz md sd da_973 rg_973 pp_973 kp ot_973 th_973 li bl nw wr ru al sp_973 en_973 ke kb at0) ++ (w1 ++ []))) H := hP
      have hD : va_D A ((wO cL o0 og1) ++ ((wZ cI cL z0 y1 y2 y3 y4 y5 y6 y7 y8 y9 y10 y11 y12 y13 y14 mn oo oa ob ss gg zz md sd da_973 rg_973 pp_973 kp ot_973 th_973 li bl nw wr ru al sp_973 en_973 ke kb at0) ++ (w1 ++ []))) := hD
      refine W.widen (k := cells + 7) (n := slots + 590) (by omega) (by omega) ?_
      exact kk H locs ls ⟨w1, og1, ad, nb, y1, y2, y3, y4, y5, y6, y7, y8, y9, y10, y11, y12, y13, y14, mn, oo, oa, ob, ss, gg, zz, md, sd, da_973, rg_973, pp_973, kp, ot_973, th_973, li, bl, nw, wr, ru, al, sp_973, en_973, ke, kb, at0, hI, hnb, hbl, hw1, hP, hD⟩ hS (lv_sub hl [2, 3, 4, 5, 6] rfl)
    · refine lv_aload_n hx hb d_L_law_994 rfl (lv_at hl 5 rfl) ?_
      refine lv_iconst (v := 0) hx hb d_L_law_995 (by decide) ?_
      refine va_lald hx hb hK.1 hP 0 1 rfl rfl (by unfold vp_in; decide) d_L_law_996 ?_
      refine lv_iload hx hb d_L_law_997 (lv_at hl 0 rfl) ?_
      refine lv_if_eq (tgt := 1006) hx hb d_L_law_999 (by decide) (fun c_999 => ?_) (fun c_999 => ?_)
      · refine lv_lconst (v := 0) hx hb d_L_law_1006 (by decide) ?_
        refine W.lcmp hx hb d_L_law_1007 ?_
        refine lv_if_eq (tgt := 1013) hx hb d_L_law_1008 (by decide) (fun c_1008 => ?_) (fun c_1008 => ?_)
        · refine lv_goto (tgt := 1041) hx hb d_L_law_1013 (by decide) ?_
          have hP : va_P D vwCl ((wO cL o0 og1) ++ ((wZ cI cL z0 y1 y2 y3 y4 y5 y6 y7 y8 y9 y10 y11 y12 y13 y14 mn oo oa ob ss gg zz md sd da_973 rg_973 pp_973 kp ot_973 th_973 li bl nw wr ru al sp_973 en_973 ke kb at0) ++ (w1 ++ []))) H := hP
          have hD : va_D A ((wO cL o0 og1) ++ ((wZ cI cL z0 y1 y2 y3 y4 y5 y6 y7 y8 y9 y10 y11 y12 y13 y14 mn oo oa ob ss gg zz md sd da_973 rg_973 pp_973 kp ot_973 th_973 li bl nw wr ru al sp_973 en_973 ke kb at0) ++ (w1 ++ []))) := hD
          refine W.widen (k := cells + 7) (n := slots + 590) (by omega) (by omega) ?_
          exact kk H locs ls ⟨w1, og1, ad, nb, y1, y2, y3, y4, y5, y6, y7, y8, y9, y10, y11, y12, y13, y14, mn, oo, oa, ob, ss, gg, zz, md, sd, da_973, rg_973, pp_973, kp, ot_973, th_973, li, bl, nw, wr, ru, al, sp_973, en_973, ke, kb, at0, hI, hnb, hbl, hw1, hP, hD⟩ hS (lv_sub hl [2, 3, 4, 5, 6] rfl)
        · exact absurd (lg_eq (by rw [show og1 (0 : Int32).toNatClampNeg = _ from q2 c_991]; first | rw [if_pos c_999] | rw [if_neg c_999])) c_1008
      · refine lv_lconst (v := 1) hx hb d_L_law_1002 (by decide) ?_
        refine lv_goto (tgt := 1007) hx hb d_L_law_1003 (by decide) ?_
        refine W.lcmp hx hb d_L_law_1007 ?_
        refine lv_if_eq (tgt := 1013) hx hb d_L_law_1008 (by decide) (fun c_1008 => ?_) (fun c_1008 => ?_)
        · refine lv_goto (tgt := 1041) hx hb d_L_law_1013 (by decide) ?_
          have hP : va_P D vwCl ((wO cL o0 og1) ++ ((wZ cI cL z0 y1 y2 y3 y4 y5 y6 y7 y8 y9 y10 y11 y12 y13 y14 mn oo oa ob ss gg zz md sd da_973 rg_973 pp_973 kp ot_973 th_973 li bl nw wr ru al sp_973 en_973 ke kb at0) ++ (w1 ++ []))) H := hP
          have hD : va_D A ((wO cL o0 og1) ++ ((wZ cI cL z0 y1 y2 y3 y4 y5 y6 y7 y8 y9 y10 y11 y12 y13 y14 mn oo oa ob ss gg zz md sd da_973 rg_973 pp_973 kp ot_973 th_973 li bl nw wr ru al sp_973 en_973 ke kb at0) ++ (w1 ++ []))) := hD
          refine W.widen (k := cells + 7) (n := slots + 590) (by omega) (by omega) ?_
          exact kk H locs ls ⟨w1, og1, ad, nb, y1, y2, y3, y4, y5, y6, y7, y8, y9, y10, y11, y12, y13, y14, mn, oo, oa, ob, ss, gg, zz, md, sd, da_973, rg_973, pp_973, kp, ot_973, th_973, li, bl, nw, wr, ru, al, sp_973, en_973, ke, kb, at0, hI, hnb, hbl, hw1, hP, hD⟩ hS (lv_sub hl [2, 3, 4, 5, 6] rfl)
        · exact absurd (lg_eq (by rw [show og1 (0 : Int32).toNatClampNeg = _ from q2 c_991]; first | rw [if_pos c_999] | rw [if_neg c_999])) c_1008
  · exact absurd q1 c_984
