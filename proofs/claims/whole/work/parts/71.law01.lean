set_option maxHeartbeats 4000000 in
set_option maxRecDepth 100000 in
theorem lc1 {p : Program} {l : Launch} {e : Env} {s : State} {m : MethodId} {below : List Frame} {meth : Method} {c : Code} {D : va_G} {cI cL cO : ClassId} {b L : Nat} {xs : Nat → Int32} {N t0 mi : Nat} {A : Nat → Prop} (hL : L ≤ 3073) (hx : p.tables.exec = Jvm.exec) (hb : c.code = code) (hml : c.maxLocals = 8) (hown : s.vm.findClass R_L = some m.cls) (hts : ∀ w ∈ (Cond.initialized R_L :: BIG), w.before #[Value.ref b] s = true) (ht : ∀ w ∈ BIG, w.before #[Value.ref b] s = true) (hX : va_X b L xs s s.heap) (hbl9 : b < s.heap.size) (hbA : ¬ A b) (hl0 : l.stackTraces = false) (hK : KW D cI cL cO s) (hE : EX N t0 mi s) (hNC : NC s) (hN : N ≤ s.heap.size) (hAN : ∀ q, A q → N ≤ q) (hA : ∀ q : Nat, s.heap.size ≤ q → A q) {x0 z0 o0 i : Nat} {cells slots : Nat} {Q : State → Prop} {H : Heap} {locs : List Loc} {ls : Array Slot} (hi6 : i + 6 ≤ L) (hcells : cells + 8 ≤ 601024) (hslots : slots + 600 ≤ 7293000) (hLS : LSt D cI cL cO A t0 x0 z0 o0 H) (hS : va_S A s.heap H locs) (hl : lv_has ls 8 [(0, .ref b), (1, .ref x0), (2, .ref z0), (3, .ref o0), (4, .int (nI i))])
    (kk : ∀ (H : Heap) (locs : List Loc) (ls : Array Slot), LSt D cI cL cO A t0 x0 z0 o0 H → va_S A s.heap H locs → lv_has ls 8 [(0, .ref b), (1, .ref x0), (2, .ref z0), (3, .ref o0), (4, .int (nI i))] → W p l e room_1 s m #[Value.ref b] below meth c H locs (cells + 7) (slots + 590) Q (F0 m 1041 ls [])) : W p l e room_1 s m #[Value.ref b] below meth c H locs cells slots Q (F0 m 164 ls []) := by
  obtain ⟨w, og, ad, nb, y1, y2, y3, y4, y5, y6, y7, y8, y9, y10, y11, y12, y13, y14, mn, oo, oa, ob, ss, gg, zz, md, sd, da, rg, pp, kp, ot, th, li, bl, nw, wr, ru, al, sp, en, ke, kb, at0, hI, hnb, hbl, hw, hP, hD⟩ := hLS
  obtain ⟨s1, e1⟩ : ∃ z, xs (nI i + 1).toNatClampNeg = z := ⟨_, rfl⟩
  obtain ⟨s2, e2⟩ : ∃ z, xs (nI i + 2).toNatClampNeg = z := ⟨_, rfl⟩
  obtain ⟨s3, e3⟩ : ∃ z, xs (nI i + 3).toNatClampNeg = z := ⟨_, rfl⟩
  obtain ⟨s4, e4⟩ : ∃ z, xs (nI i + 4).toNatClampNeg = z := ⟨_, rfl⟩
  obtain ⟨s5, e5⟩ : ∃ z, xs (nI i + 5).toNatClampNeg = z := ⟨_, rfl⟩
  refine lv_aload_n hx hb d_L_law_164 rfl (lv_at hl 1 rfl) ?_
  refine lv_aload_n hx hb d_L_law_165 rfl (lv_at hl 0 rfl) ?_
  refine lv_iload hx hb d_L_law_166 (lv_at hl 4 rfl) ?_
  refine lv_iconst (v := 1) hx hb d_L_law_168 (by decide) ?_
  refine lv_iadd hx hb d_L_law_169 ?_
  refine va_sld hx hb hX hbl9 hbA hS (vinL (k := 1) hi6 hL (by decide)) d_L_law_170 ?_
  rw [e1]
  refine lv_aload_n hx hb d_L_law_171 rfl (lv_at hl 0 rfl) ?_
  refine lv_iload hx hb d_L_law_172 (lv_at hl 4 rfl) ?_
  refine lv_iconst (v := 2) hx hb d_L_law_174 (by decide) ?_
  refine lv_iadd hx hb d_L_law_175 ?_
  refine va_sld hx hb hX hbl9 hbA hS (vinL (k := 2) hi6 hL (by decide)) d_L_law_176 ?_
  rw [e2]
  refine lv_aload_n hx hb d_L_law_177 rfl (lv_at hl 0 rfl) ?_
  refine lv_iload hx hb d_L_law_178 (lv_at hl 4 rfl) ?_
  refine lv_iconst (v := 3) hx hb d_L_law_180 (by decide) ?_
  refine lv_iadd hx hb d_L_law_181 ?_
  refine va_sld hx hb hX hbl9 hbA hS (vinL (k := 3) hi6 hL (by decide)) d_L_law_182 ?_
  rw [e3]
  refine lv_aload_n hx hb d_L_law_183 rfl (lv_at hl 0 rfl) ?_
  refine lv_iload hx hb d_L_law_184 (lv_at hl 4 rfl) ?_
  refine lv_iconst (v := 4) hx hb d_L_law_186 (by decide) ?_
  refine lv_iadd hx hb d_L_law_187 ?_
  refine va_sld hx hb hX hbl9 hbA hS (vinL (k := 4) hi6 hL (by decide)) d_L_law_188 ?_
  rw [e4]
  refine lv_aload_n hx hb d_L_law_189 rfl (lv_at hl 3 rfl) ?_
  have hP := P_sw1 hP
  have hD := D_sw1 hD
  have hP := P_sw hP
  have hD := D_sw hD
  have hP : va_P D vwCl (w ++ ((wO cL o0 og) ++ ((wZ cI cL z0 y1 y2 y3 y4 y5 y6 y7 y8 y9 y10 y11 y12 y13 y14 mn oo oa ob ss gg zz md sd da rg pp kp ot th li bl nw wr ru al sp en ke kb at0) ++ []))) H := hP
  have hD : va_D A (w ++ ((wO cL o0 og) ++ ((wZ cI cL z0 y1 y2 y3 y4 y5 y6 y7 y8 y9 y10 y11 y12 y13 y14 mn oo oa ob ss gg zz md sd da rg pp kp ot th li bl nw wr ru al sp en ke kb at0) ++ []))) := hD
  refine goMi (runSW (n := 6) (As := [.ref x0, .int s1, .int s2, .int s3, .int s4, .ref o0]) (rest := []) hx hb hml hown (h_instruction (D := D) (cI := cI) (cL := cL) (cO := cO) (N := N) (mi := mi) hl0 hw o0 og ((wZ cI cL z0 y1 y2 y3 y4 y5 y6 y7 y8 y9 y10 y11 y12 y13 y14 mn oo oa ob ss gg zz md sd da rg pp kp ot th li bl nw wr ru al sp en ke kb at0) ++ []) s1 s2 s3 s4 (hicZ hI hnb) H.size) rfl rfl ⟨Nat.le_of_ble_eq_true rfl, Nat.le_of_ble_eq_true rfl⟩ (hwsW k_co_L_instruction ht) List.mem_cons_self (ht _ k_co_L_instruction) k_ini_L ht (by decide +kernel) (by decide +kernel) (ht _ k_ml_L_77) (ht _ k_st_L_instruction) ⟨PH.bl, PH.pre hP hD hK hE hNC hS hAN hN⟩ rfl rfl hl.1 rfl (lv_room (Nat.le_of_ble_eq_true rfl)) d_L_law_190 ⟨by show _ ≤ 601024; omega, by show _ ≤ 7293000; omega⟩) hD hS hA (fun r1 u H locs hq hP hD hS => ?_)
  obtain ⟨w1, og1, bk1⟩ := u
  obtain ⟨hw1, hO⟩ := hq
  have hP : va_P D vwCl (w1 ++ ((wO cL o0 og1) ++ ((wZ cI cL z0 y1 y2 y3 y4 y5 y6 y7 y8 y9 y10 y11 y12 y13 y14 mn oo oa ob ss gg zz md sd da rg pp kp ot th li bl nw wr ru al sp en ke kb at0) ++ []))) H := hP
  have hD : va_D A (w1 ++ ((wO cL o0 og1) ++ ((wZ cI cL z0 y1 y2 y3 y4 y5 y6 y7 y8 y9 y10 y11 y12 y13 y14 mn oo oa ob ss gg zz md sd da rg pp kp ot th li bl nw wr ru al sp en ke kb at0) ++ []))) := hD
  have hP := P_sw hP
  have hD := D_sw hD
  have hP := P_sw1 hP
  have hD := D_sw1 hD
  have hP : va_P D vwCl ((wO cL o0 og1) ++ ((wZ cI cL z0 y1 y2 y3 y4 y5 y6 y7 y8 y9 y10 y11 y12 y13 y14 mn oo oa ob ss gg zz md sd da rg pp kp ot th li bl nw wr ru al sp en ke kb at0) ++ (w1 ++ []))) H := hP
  have hD : va_D A ((wO cL o0 og1) ++ ((wZ cI cL z0 y1 y2 y3 y4 y5 y6 y7 y8 y9 y10 y11 y12 y13 y14 mn oo oa ob ss gg zz md sd da rg pp kp ot th li bl nw wr ru al sp en ke kb at0) ++ (w1 ++ []))) := hD
  refine lv_istore (lv' := [(5, .int r1), (0, .ref b), (1, .ref x0), (2, .ref z0), (3, .ref o0), (4, .int (nI i))]) hx hb d_L_law_193 hl (by decide) rfl (fun ls hl => ?_)
  refine lv_aload_n hx hb d_L_law_195 rfl (lv_at hl 3 rfl) ?_
  refine lv_aload_n hx hb d_L_law_196 rfl (lv_at hl 1 rfl) ?_
  refine lv_iload hx hb d_L_law_197 (lv_at hl 5 rfl) ?_
  refine lv_iconst (v := 1) hx hb d_L_law_199 (by decide) ?_
  refine lv_iadd hx hb d_L_law_200 ?_
  refine va_sld hx hb hX hbl9 hbA hS (vinL (k := 1) hi6 hL (by decide)) d_L_law_201 ?_
  rw [e1]
  refine lv_aload_n hx hb d_L_law_202 rfl (lv_at hl 1 rfl) ?_
  refine lv_iload hx hb d_L_law_203 (lv_at hl 5 rfl) ?_
  refine lv_iconst (v := 2) hx hb d_L_law_205 (by decide) ?_
  refine lv_iadd hx hb d_L_law_206 ?_
  refine va_sld hx hb hX hbl9 hbA hS (vinL (k := 2) hi6 hL (by decide)) d_L_law_207 ?_
  rw [e2]
  refine lv_aload_n hx hb d_L_law_208 rfl (lv_at hl 1 rfl) ?_
  refine lv_iload hx hb d_L_law_209 (lv_at hl 5 rfl) ?_
  refine lv_iconst (v := 3) hx hb d_L_law_211 (by decide) ?_
  refine lv_iadd hx hb d_L_law_212 ?_
  refine va_sld hx hb hX hbl9 hbA hS (vinL (k := 3) hi6 hL (by decide)) d_L_law_213 ?_
  rw [e3]
  refine lv_aload_n hx hb d_L_law_214 rfl (lv_at hl 1 rfl) ?_
  refine lv_iload hx hb d_L_law_215 (lv_at hl 5 rfl) ?_
  refine lv_iconst (v := 4) hx hb d_L_law_217 (by decide) ?_
  refine lv_iadd hx hb d_L_law_218 ?_
  refine va_sld hx hb hX hbl9 hbA hS (vinL (k := 4) hi6 hL (by decide)) d_L_law_219 ?_
  rw [e4]
  have hP := P_sw hP
  have hD := D_sw hD
  refine goMi (va_runV (As := [.int s1, .int s2, .int s3, .int s4]) (rest := []) ⟨hx, hb, hml, hown, hts⟩ (c_Z_instruction l D cI cL cO z0 y1 y2 y3 y4 y5 y6 y7 y8 y9 y10 y11 y12 y13 y14 mn oo oa ob ss gg zz md sd da rg pp kp ot th li bl nw wr ru al sp en ke kb at0 ((wO cL o0 og1) ++ (w1 ++ [])) s1 s2 s3 s4 (bl24 hnb hbl) hI.1 H.size) (cwV 4 hts (gBIG (m4 k_ml_L_80 k_im_Z_instruction k_sel_Z_instruction k_ini_Z) k_co_Z_instruction) rfl rfl rfl (by decide +kernel) ⟨Nat.le_of_ble_eq_true rfl, Nat.le_of_ble_eq_true rfl⟩) ⟨PM.bl, va_recv hK.1 hP (ci := 5) (q0 := 0) rfl rfl, PM.pre hP hD hK⟩ rfl rfl hl.1 rfl (lv_room (Nat.le_of_ble_eq_true rfl)) d_L_law_220 ⟨by show _ ≤ 601024; omega, by show _ ≤ 7293000; omega⟩) hD hS hA (fun r_220 u H locs hw hP hD hS => ?_)
  obtain ⟨th_220, mn_220, oo_220, oa_220, ob_220, ss_220⟩ := u
  have e_220 : (r_220, th_220, mn_220, oo_220, oa_220, ob_220, ss_220) = zinsF s1 s2 s3 s4 bl mn oo oa ob ss := hw
  have hP : va_P D vwCl ((wZ cI cL z0 y1 y2 y3 y4 y5 y6 y7 y8 y9 y10 y11 y12 y13 y14 mn_220 oo_220 oa_220 ob_220 ss_220 gg zz md sd da rg pp kp ot th_220 li bl nw wr ru al sp en ke kb at0) ++ ((wO cL o0 og1) ++ (w1 ++ []))) H := hP
  have hD : va_D A ((wZ cI cL z0 y1 y2 y3 y4 y5 y6 y7 y8 y9 y10 y11 y12 y13 y14 mn_220 oo_220 oa_220 ob_220 ss_220 gg zz md sd da rg pp kp ot th_220 li bl nw wr ru al sp en ke kb at0) ++ ((wO cL o0 og1) ++ (w1 ++ []))) := hD
  have hP := P_sw hP
  have hD := D_sw hD
  have hP : va_P D vwCl ((wO cL o0 og1) ++ ((wZ cI cL z0 y1 y2 y3 y4 y5 y6 y7 y8 y9 y10 y11 y12 y13 y14 mn_220 oo_220 oa_220 ob_220 ss_220 gg zz md sd da rg pp kp ot th_220 li bl nw wr ru al sp en ke kb at0) ++ (w1 ++ []))) H := hP
  have hD : va_D A ((wO cL o0 og1) ++ ((wZ cI cL z0 y1 y2 y3 y4 y5 y6 y7 y8 y9 y10 y11 y12 y13 y14 mn_220 oo_220 oa_220 ob_220 ss_220 gg zz md sd da rg pp kp ot th_220 li bl nw wr ru al sp en ke kb at0) ++ (w1 ++ []))) := hD
  obtain ⟨q1, q2, q3, q4⟩ := t_ins hI hnb hbl hO e_220
  refine lv_istore (lv' := [(6, .int r_220), (5, .int r1), (0, .ref b), (1, .ref x0), (2, .ref z0), (3, .ref o0), (4, .int (nI i))]) hx hb d_L_law_223 hl (by decide) rfl (fun ls hl => ?_)
  refine lv_aload_n hx hb d_L_law_225 rfl (lv_at hl 4 rfl) ?_
  refine goRi (va_runV (As := []) (rest := []) ⟨hx, hb, hml, hown, hts⟩ (c_Z_thrown l D cI cL cO z0 y1 y2 y3 y4 y5 y6 y7 y8 y9 y10 y11 y12 y13 y14 mn_220 oo_220 oa_220 ob_220 ss_220 gg zz md sd da rg pp kp ot th_220 li bl nw wr ru al sp en ke kb at0) (cwV 0 hts (gBIG (m4 k_ml_L_74 k_im_Z_thrown k_sel_Z_thrown k_ini_Z) k_co_Z_thrown) rfl rfl rfl (by decide +kernel) ⟨Nat.le_of_ble_eq_true rfl, Nat.le_of_ble_eq_true rfl⟩) ⟨PR.bl, va_recv hK.1 ((P_app.mp (P_app.mp hP).2).1) (ci := 5) (q0 := 0) rfl rfl, PR.pre ((P_app.mp (P_app.mp hP).2).1) hK⟩ rfl rfl hl.1 rfl (lv_room (Nat.le_of_ble_eq_true rfl)) d_L_law_226 ⟨by show _ ≤ 601024; omega, by show _ ≤ 7293000; omega⟩) ?_
  refine lv_iload hx hb d_L_law_229 (lv_at hl 1 rfl) ?_
  refine lv_icmp_eq (tgt := 236) hx hb d_L_law_231 (by decide) (fun c_231 => ?_) (fun c_231 => ?_)
  · refine lv_iload hx hb d_L_law_236 (lv_at hl 1 rfl) ?_
    refine lv_if_ne (tgt := 253) hx hb d_L_law_238 (by decide) (fun c_238 => ?_) (fun c_238 => ?_)
    · refine lv_goto (tgt := 1041) hx hb d_L_law_253 (by decide) ?_
      have hP := P_sw1 hP
      have hD := D_sw1 hD
      have hP := P_sw hP
      have hD := D_sw hD
      have hP : va_P D vwCl (w1 ++ ((wO cL o0 og1) ++ ((wZ cI cL z0 y1 y2 y3 y4 y5 y6 y7 y8 y9 y10 y11 y12 y13 y14 mn_220 oo_220 oa_220 ob_220 ss_220 gg zz md sd da rg pp kp ot th_220 li bl nw wr ru al sp en ke kb at0) ++ []))) H := hP
      have hD : va_D A (w1 ++ ((wO cL o0 og1) ++ ((wZ cI cL z0 y1 y2 y3 y4 y5 y6 y7 y8 y9 y10 y11 y12 y13 y14 mn_220 oo_220 oa_220 ob_220 ss_220 gg zz md sd da rg pp kp ot th_220 li bl nw wr ru al sp en ke kb at0) ++ []))) := hD
      obtain ⟨w2, hw2, hP, hD⟩ := CW_norm hw1 q4 hP hD
      have hP : va_P D vwCl (w2 ++ ((wO cL o0 og1) ++ ((wZ cI cL z0 y1 y2 y3 y4 y5 y6 y7 y8 y9 y10 y11 y12 y13 y14 mn_220 oo_220 oa_220 ob_220 ss_220 gg zz md sd da rg pp kp ot th_220 li bl nw wr ru al sp en ke kb at0) ++ []))) H := hP
      have hD : va_D A (w2 ++ ((wO cL o0 og1) ++ ((wZ cI cL z0 y1 y2 y3 y4 y5 y6 y7 y8 y9 y10 y11 y12 y13 y14 mn_220 oo_220 oa_220 ob_220 ss_220 gg zz md sd da rg pp kp ot th_220 li bl nw wr ru al sp en ke kb at0) ++ []))) := hD
      have hP := P_sw hP
      have hD := D_sw hD
      have hP := P_sw1 hP
      have hD := D_sw1 hD
      have hP : va_P D vwCl ((wO cL o0 og1) ++ ((wZ cI cL z0 y1 y2 y3 y4 y5 y6 y7 y8 y9 y10 y11 y12 y13 y14 mn_220 oo_220 oa_220 ob_220 ss_220 gg zz md sd da rg pp kp ot th_220 li bl nw wr ru al sp en ke kb at0) ++ (w2 ++ []))) H := hP
      have hD : va_D A ((wO cL o0 og1) ++ ((wZ cI cL z0 y1 y2 y3 y4 y5 y6 y7 y8 y9 y10 y11 y12 y13 y14 mn_220 oo_220 oa_220 ob_220 ss_220 gg zz md sd da rg pp kp ot th_220 li bl nw wr ru al sp en ke kb at0) ++ (w2 ++ []))) := hD
      refine W.widen (k := cells + 7) (n := slots + 590) (by omega) (by omega) ?_
      exact kk H locs ls ⟨w2, og1, ad, nb, y1, y2, y3, y4, y5, y6, y7, y8, y9, y10, y11, y12, y13, y14, mn_220, oo_220, oa_220, ob_220, ss_220, gg, zz, md, sd, da, rg, pp, kp, ot, th_220, li, bl, nw, wr, ru, al, sp, en, ke, kb, at0, q3, hnb, hbl, hw2, hP, hD⟩ hS (lv_sub hl [2, 3, 4, 5, 6] rfl)
    · refine lv_aload_n hx hb d_L_law_241 rfl (lv_at hl 5 rfl) ?_
      refine lv_iconst (v := 0) hx hb d_L_law_242 (by decide) ?_
      refine va_lald hx hb hK.1 hP 0 1 rfl rfl (by unfold vp_in; decide) d_L_law_243 ?_
      refine lv_iload hx hb d_L_law_244 (lv_at hl 0 rfl) ?_
      refine lv_i2l (v := r_220.toInt64) hx hb d_L_law_246 rfl ?_
      refine W.lcmp hx hb d_L_law_247 ?_
      refine lv_if_eq (tgt := 253) hx hb d_L_law_248 (by decide) (fun c_248 => ?_) (fun c_248 => ?_)
      · refine lv_goto (tgt := 1041) hx hb d_L_law_253 (by decide) ?_
        have hP := P_sw1 hP
        have hD := D_sw1 hD
        have hP := P_sw hP
        have hD := D_sw hD
        have hP : va_P D vwCl (w1 ++ ((wO cL o0 og1) ++ ((wZ cI cL z0 y1 y2 y3 y4 y5 y6 y7 y8 y9 y10 y11 y12 y13 y14 mn_220 oo_220 oa_220 ob_220 ss_220 gg zz md sd da rg pp kp ot th_220 li bl nw wr ru al sp en ke kb at0) ++ []))) H := hP
        have hD : va_D A (w1 ++ ((wO cL o0 og1) ++ ((wZ cI cL z0 y1 y2 y3 y4 y5 y6 y7 y8 y9 y10 y11 y12 y13 y14 mn_220 oo_220 oa_220 ob_220 ss_220 gg zz md sd da rg pp kp ot th_220 li bl nw wr ru al sp en ke kb at0) ++ []))) := hD
        obtain ⟨w2, hw2, hP, hD⟩ := CW_norm hw1 q4 hP hD
        have hP : va_P D vwCl (w2 ++ ((wO cL o0 og1) ++ ((wZ cI cL z0 y1 y2 y3 y4 y5 y6 y7 y8 y9 y10 y11 y12 y13 y14 mn_220 oo_220 oa_220 ob_220 ss_220 gg zz md sd da rg pp kp ot th_220 li bl nw wr ru al sp en ke kb at0) ++ []))) H := hP
        have hD : va_D A (w2 ++ ((wO cL o0 og1) ++ ((wZ cI cL z0 y1 y2 y3 y4 y5 y6 y7 y8 y9 y10 y11 y12 y13 y14 mn_220 oo_220 oa_220 ob_220 ss_220 gg zz md sd da rg pp kp ot th_220 li bl nw wr ru al sp en ke kb at0) ++ []))) := hD
        have hP := P_sw hP
        have hD := D_sw hD
        have hP := P_sw1 hP
        have hD := D_sw1 hD
        have hP : va_P D vwCl ((wO cL o0 og1) ++ ((wZ cI cL z0 y1 y2 y3 y4 y5 y6 y7 y8 y9 y10 y11 y12 y13 y14 mn_220 oo_220 oa_220 ob_220 ss_220 gg zz md sd da rg pp kp ot th_220 li bl nw wr ru al sp en ke kb at0) ++ (w2 ++ []))) H := hP
        have hD : va_D A ((wO cL o0 og1) ++ ((wZ cI cL z0 y1 y2 y3 y4 y5 y6 y7 y8 y9 y10 y11 y12 y13 y14 mn_220 oo_220 oa_220 ob_220 ss_220 gg zz md sd da rg pp kp ot th_220 li bl nw wr ru al sp en ke kb at0) ++ (w2 ++ []))) := hD
        refine W.widen (k := cells + 7) (n := slots + 590) (by omega) (by omega) ?_
        exact kk H locs ls ⟨w2, og1, ad, nb, y1, y2, y3, y4, y5, y6, y7, y8, y9, y10, y11, y12, y13, y14, mn_220, oo_220, oa_220, ob_220, ss_220, gg, zz, md, sd, da, rg, pp, kp, ot, th_220, li, bl, nw, wr, ru, al, sp, en, ke, kb, at0, q3, hnb, hbl, hw2, hP, hD⟩ hS (lv_sub hl [2, 3, 4, 5, 6] rfl)
      · exact absurd (lg_eq (q2 c_238)) c_248
  · exact absurd q1 c_231
