set_option maxHeartbeats 4000000 in
set_option maxRecDepth 100000 in
theorem lc8 {p : Program} {l : Launch} {e : Env} {s : State} {m : MethodId} {below : List Frame} {meth : Method} {c : Code} {D : va_G} {cI cL cO : ClassId} {b L : Nat} {xs : Nat → Int32} {N t0 mi : Nat} {A : Nat → Prop} (hL : L ≤ 3073) (hx : p.tables.exec = Jvm.exec) (hb : c.code = code) (hml : c.maxLocals = 8) (hown : s.vm.findClass R_L = some m.cls) (hts : ∀ w ∈ (Cond.initialized R_L :: BIG), w.before #[Value.ref b] s = true) (ht : ∀ w ∈ BIG, w.before #[Value.ref b] s = true) (hX : va_X b L xs s s.heap) (hbl9 : b < s.heap.size) (hbA : ¬ A b) (hl0 : l.stackTraces = false) (hK : KW D cI cL cO s) (hE : EX N t0 mi s) (hNC : NC s) (hN : N ≤ s.heap.size) (hAN : ∀ q, A q → N ≤ q) (hA : ∀ q : Nat, s.heap.size ≤ q → A q) {x0 z0 o0 i : Nat} {cells slots : Nat} {Q : State → Prop} {H : Heap} {locs : List Loc} {ls : Array Slot} (hi6 : i + 6 ≤ L) (hcells : cells + 8 ≤ 601024) (hslots : slots + 600 ≤ 7293000) (hLS : LSt D cI cL cO A t0 x0 z0 o0 H) (hS : va_S A s.heap H locs) (hl : lv_has ls 8 [(0, .ref b), (1, .ref x0), (2, .ref z0), (3, .ref o0), (4, .int (nI i))])
    (kk : ∀ (H : Heap) (locs : List Loc) (ls : Array Slot), LSt D cI cL cO A t0 x0 z0 o0 H → va_S A s.heap H locs → lv_has ls 8 [(0, .ref b), (1, .ref x0), (2, .ref z0), (3, .ref o0), (4, .int (nI i))] → W p l e room_1 s m #[Value.ref b] below meth c H locs (cells + 7) (slots + 590) Q (F0 m 1041 ls [])) : W p l e room_1 s m #[Value.ref b] below meth c H locs cells slots Q (F0 m 597 ls []) := by
  obtain ⟨w, og, ad, nb, y1, y2, y3, y4, y5, y6, y7, y8, y9, y10, y11, y12, y13, y14, mn, oo, oa, ob, ss, gg, zz, md, sd, da, rg, pp, kp, ot, th, li, bl, nw, wr, ru, al, sp, en, ke, kb, at0, hI, hnb, hbl, hw, hP, hD⟩ := hLS
  obtain ⟨s1, e1⟩ : ∃ z, xs (nI i + 1).toNatClampNeg = z := ⟨_, rfl⟩
  obtain ⟨s2, e2⟩ : ∃ z, xs (nI i + 2).toNatClampNeg = z := ⟨_, rfl⟩
  obtain ⟨s3, e3⟩ : ∃ z, xs (nI i + 3).toNatClampNeg = z := ⟨_, rfl⟩
  obtain ⟨s4, e4⟩ : ∃ z, xs (nI i + 4).toNatClampNeg = z := ⟨_, rfl⟩
  obtain ⟨s5, e5⟩ : ∃ z, xs (nI i + 5).toNatClampNeg = z := ⟨_, rfl⟩
  refine lv_aload_n hx hb d_L_law_597 rfl (lv_at hl 1 rfl) ?_
  have hP := P_sw1 hP
  have hD := D_sw1 hD
  have hP := P_sw hP
  have hD := D_sw hD
  have hP : va_P D vwCl (w ++ ((wO cL o0 og) ++ ((wZ cI cL z0 y1 y2 y3 y4 y5 y6 y7 y8 y9 y10 y11 y12 y13 y14 mn oo oa ob ss gg zz md sd da rg pp kp ot th li bl nw wr ru al sp en ke kb at0) ++ []))) H := hP
  have hD : va_D A (w ++ ((wO cL o0 og) ++ ((wZ cI cL z0 y1 y2 y3 y4 y5 y6 y7 y8 y9 y10 y11 y12 y13 y14 mn oo oa ob ss gg zz md sd da rg pp kp ot th li bl nw wr ru al sp en ke kb at0) ++ []))) := hD
  refine goMi (va_runV (As := []) (rest := []) ⟨hx, hb, hml, hown, hts⟩ (h_next (l := l) (D := D) (cI := cI) (cL := cL) (cO := cO) (N := N) (mi := mi) hw ((wO cL o0 og) ++ ((wZ cI cL z0 y1 y2 y3 y4 y5 y6 y7 y8 y9 y10 y11 y12 y13 y14 mn oo oa ob ss gg zz md sd da rg pp kp ot th li bl nw wr ru al sp en ke kb at0) ++ []))  H.size) (cwV 0 hts (gBIG (m4 k_ml_L_103 k_im_M_next k_sel_M_next k_ini_M) k_co_M_next) rfl rfl rfl (by decide +kernel) ⟨Nat.le_of_ble_eq_true rfl, Nat.le_of_ble_eq_true rfl⟩) ⟨PH.bl, CW_recv hw hK hP, PH.pre hP hD hK hE hNC hS hAN hN⟩ rfl rfl hl.1 rfl (lv_room (Nat.le_of_ble_eq_true rfl)) d_L_law_598 ⟨by show _ ≤ 601024; omega, by show _ ≤ 7293000; omega⟩) hD hS hA (fun r1 u H locs hq hP hD hS => ?_)
  obtain ⟨w1, gen1, bk1⟩ := u
  obtain ⟨hw1, hO⟩ := hq
  have hP : va_P D vwCl (w1 ++ ((wO cL o0 og) ++ ((wZ cI cL z0 y1 y2 y3 y4 y5 y6 y7 y8 y9 y10 y11 y12 y13 y14 mn oo oa ob ss gg zz md sd da rg pp kp ot th li bl nw wr ru al sp en ke kb at0) ++ []))) H := hP
  have hD : va_D A (w1 ++ ((wO cL o0 og) ++ ((wZ cI cL z0 y1 y2 y3 y4 y5 y6 y7 y8 y9 y10 y11 y12 y13 y14 mn oo oa ob ss gg zz md sd da rg pp kp ot th li bl nw wr ru al sp en ke kb at0) ++ []))) := hD
  have hP := P_sw hP
  have hD := D_sw hD
  have hP := P_sw1 hP
  have hD := D_sw1 hD
  have hP : va_P D vwCl ((wO cL o0 og) ++ ((wZ cI cL z0 y1 y2 y3 y4 y5 y6 y7 y8 y9 y10 y11 y12 y13 y14 mn oo oa ob ss gg zz md sd da rg pp kp ot th li bl nw wr ru al sp en ke kb at0) ++ (w1 ++ []))) H := hP
  have hD : va_D A ((wO cL o0 og) ++ ((wZ cI cL z0 y1 y2 y3 y4 y5 y6 y7 y8 y9 y10 y11 y12 y13 y14 mn oo oa ob ss gg zz md sd da rg pp kp ot th li bl nw wr ru al sp en ke kb at0) ++ (w1 ++ []))) := hD
  refine lv_aload_n hx hb d_L_law_601 rfl (lv_at hl 2 rfl) ?_
  have hP := P_sw hP
  have hD := D_sw hD
  refine goMi (va_runV (As := []) (rest := [.int r1]) ⟨hx, hb, hml, hown, hts⟩ (c_Z_next l D cI cL cO z0 y1 y2 y3 y4 y5 y6 y7 y8 y9 y10 y11 y12 y13 y14 mn oo oa ob ss gg zz md sd da rg pp kp ot th li bl nw wr ru al sp en ke kb at0 ((wO cL o0 og) ++ (w1 ++ [])) (bl24 hnb hbl) H.size) (cwV 0 hts (gBIG (m4 k_ml_L_106 k_im_Z_next k_sel_Z_next k_ini_Z) k_co_Z_next) rfl rfl rfl (by decide +kernel) ⟨Nat.le_of_ble_eq_true rfl, Nat.le_of_ble_eq_true rfl⟩) ⟨PM.bl, va_recv hK.1 hP (ci := 5) (q0 := 0) rfl rfl, PM.pre hP hD hK⟩ rfl rfl hl.1 rfl (lv_room (Nat.le_of_ble_eq_true rfl)) d_L_law_602 ⟨by show _ ≤ 601024; omega, by show _ ≤ 7293000; omega⟩) hD hS hA (fun r_602 u H locs hw hP hD hS => ?_)
  obtain ⟨th_602, nw_602, ss_602⟩ := u
  have e_602 : (r_602, ss_602) = nxL gg (olF (nw + 1) li) bl 25 0 0 ss ∧ th_602 = 0 ∧ nw_602 = nw + 1 := hw
  have hP : va_P D vwCl ((wZ cI cL z0 y1 y2 y3 y4 y5 y6 y7 y8 y9 y10 y11 y12 y13 y14 mn oo oa ob ss_602 gg zz md sd da rg pp kp ot th_602 li bl nw_602 wr ru al sp en ke kb at0) ++ ((wO cL o0 og) ++ (w1 ++ []))) H := hP
  have hD : va_D A ((wZ cI cL z0 y1 y2 y3 y4 y5 y6 y7 y8 y9 y10 y11 y12 y13 y14 mn oo oa ob ss_602 gg zz md sd da rg pp kp ot th_602 li bl nw_602 wr ru al sp en ke kb at0) ++ ((wO cL o0 og) ++ (w1 ++ []))) := hD
  have hP := P_sw hP
  have hD := D_sw hD
  have hP : va_P D vwCl ((wO cL o0 og) ++ ((wZ cI cL z0 y1 y2 y3 y4 y5 y6 y7 y8 y9 y10 y11 y12 y13 y14 mn oo oa ob ss_602 gg zz md sd da rg pp kp ot th_602 li bl nw_602 wr ru al sp en ke kb at0) ++ (w1 ++ []))) H := hP
  have hD : va_D A ((wO cL o0 og) ++ ((wZ cI cL z0 y1 y2 y3 y4 y5 y6 y7 y8 y9 y10 y11 y12 y13 y14 mn oo oa ob ss_602 gg zz md sd da rg pp kp ot th_602 li bl nw_602 wr ru al sp en ke kb at0) ++ (w1 ++ []))) := hD
  obtain ⟨q1, q2, q3⟩ := t_nxt hI hnb hbl hO.1 e_602.1
  have hw1 : CW cI cL cO t0 x0 li gen1 wr ru al nb bk1 kp ke kb w1 := hw1
  have q2 : bk1 = bkZ ad mn oo oa ob ss_602 gg zz md := q2
  have q9 : gen1 = nw_602 := hO.2.trans e_602.2.2.symm
  rw [q9, q2] at hw1
  refine lv_icmp_eq (tgt := 1041) hx hb d_L_law_605 (by decide) (fun c_605 => ?_) (fun c_605 => ?_)
  · have hP : va_P D vwCl ((wO cL o0 og) ++ ((wZ cI cL z0 y1 y2 y3 y4 y5 y6 y7 y8 y9 y10 y11 y12 y13 y14 mn oo oa ob ss_602 gg zz md sd da rg pp kp ot th_602 li bl nw_602 wr ru al sp en ke kb at0) ++ (w1 ++ []))) H := hP
    have hD : va_D A ((wO cL o0 og) ++ ((wZ cI cL z0 y1 y2 y3 y4 y5 y6 y7 y8 y9 y10 y11 y12 y13 y14 mn oo oa ob ss_602 gg zz md sd da rg pp kp ot th_602 li bl nw_602 wr ru al sp en ke kb at0) ++ (w1 ++ []))) := hD
    refine W.widen (k := cells + 7) (n := slots + 590) (by omega) (by omega) ?_
    exact kk H locs ls ⟨w1, og, ad, nb, y1, y2, y3, y4, y5, y6, y7, y8, y9, y10, y11, y12, y13, y14, mn, oo, oa, ob, ss_602, gg, zz, md, sd, da, rg, pp, kp, ot, th_602, li, bl, nw_602, wr, ru, al, sp, en, ke, kb, at0, q3, hnb, hbl, hw1, hP, hD⟩ hS (lv_sub hl [0, 1, 2, 3, 4] rfl)
  · exact absurd q1 c_605
