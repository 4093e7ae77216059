def wO (cL : ClassId) (o0 : Nat) (og : FL) : va_W := [(o0, .inl (cL, 1, .inr (.inl og)))]
theorem og0 {f : FL} {v : Int64} : vp_updL f (0 : Int32).toNatClampNeg v 0 = v := pk_uLs (k := 0)

theorem klc_13 : Cond.classLink R_L 13 eU ∈ BIG := bmm (by decide +kernel) (by decide +kernel)
theorem kcc_U : Cond.castable eU eU ∈ tw_l := List.mem_filter.mpr ⟨by decide +kernel, by decide +kernel⟩
theorem klc_19 : Cond.classLink R_L 19 eX ∈ BIG := bmm (by decide +kernel) (by decide +kernel)
theorem kcc_X : Cond.castable eX eX ∈ tw_l := List.mem_filter.mpr ⟨by decide +kernel, by decide +kernel⟩
theorem klc_21 : Cond.classLink R_L 21 eA ∈ BIG := bmm (by decide +kernel) (by decide +kernel)
theorem kcc_A : Cond.castable eA eA ∈ tw_l := List.mem_filter.mpr ⟨by decide +kernel, by decide +kernel⟩
theorem klc_31 : Cond.classLink R_L 31 eS ∈ BIG := bmm (by decide +kernel) (by decide +kernel)
theorem kcc_S : Cond.castable eS eS ∈ tw_l := List.mem_filter.mpr ⟨by decide +kernel, by decide +kernel⟩
abbrev w_L_block : List Cond := .codeWith y_L_block b_L_block 3 (some .int) [(0, 8, 11, 13)] :: BIG
abbrev rm_L_block : Room := { frames := 9, cells := 7, slots := 590, locals := 330 }
set_option maxHeartbeats 1000000 in
set_option maxRecDepth 100000 in
theorem c_L_blockU (l : Launch) (D : va_G) (cI cL cO : ClassId) (N t0 mi : Nat) (hl0 : l.stackTraces = false) (x0 : Nat) (lim : Int32) (a0 : Nat) (k0 : Nat) (u0 : Nat) (v0 : Nat) (t1 : Nat) (gen : Int32) (wrg : Int32) (rns : Int32) (als : Int32) (d0 : Nat) (sz : Int32) (mo : Int32) (o0 : Nat) (og : FL) (fr : va_W) (h24 : ¬ sz < 24) : CHi l y_L_block w_L_block rm_L_block D cI cL cO N t0 mi [.ref x0, .ref o0] ((wX x0 lim a0 k0 u0 v0 t1 gen wrg rns als) ++ ((wH a0 d0 sz mo) ++ ((wO cL o0 og) ++ fr))) (fun (r : Int32) (u : Unit) => r = 1) (fun u : Unit => ((wX x0 lim a0 k0 u0 v0 t1 gen wrg rns als) ++ ((wH a0 d0 sz mo) ++ ((wO cL o0 og) ++ fr)))) 7 590 := by
  refine ofH (cc := b_L_block) (maxL := 3) (ret := (some .int)) (hh := [(0, 8, 11, 13)]) (by decide) rfl (Nat.le_of_ble_eq_true rfl) ?_
  intro p e s m below meth c A ls H Q hQ hx hb hr hlocks htab hts hown hml hP hK hD hS hA hl hE hN hAN hNC
  have hl : lv_has ls 3 [(0, .ref x0), (1, .ref o0)] := hl
  have hown : s.vm.findClass R_L = some m.cls := hown
  have ht : ∀ w ∈ BIG, w.before _ s = true := fun w h => hts w (List.mem_cons_of_mem _ h)
  refine lv_aload_n hx hb d_L_block_0 rfl (lv_at hl 1 rfl) ?_
  refine lv_iconst (v := 0) hx hb d_L_block_1 (by decide) ?_
  refine lv_aload_n hx hb d_L_block_2 rfl (lv_at hl 0 rfl) ?_
  have hAi := A_in hD hS hA
  refine goT (N := N) (runT (As := []) (rest := [.int 0, .ref o0]) ⟨hx, hb, hml, hown, hts⟩ (c_M_blockU l D cI cL cO N t0 mi hl0 x0 lim a0 k0 u0 v0 t1 gen wrg rns als d0 sz mo ((wO cL o0 og) ++ fr) h24 H.size) (cwV 0 hts (gBIG (m4 k_ml_L_7 k_im_M_block k_sel_M_block k_ini_M) k_co_M_block) rfl rfl rfl (by decide +kernel) ⟨Nat.le_of_ble_eq_true rfl, Nat.le_of_ble_eq_true rfl⟩) ⟨PX.bl, va_recv hK.1 hP (ci := 3) (q0 := 0) rfl rfl, PX.pre hP hD hK hE hS hAN hN⟩ rfl rfl hl.1 rfl (lv_room (Nat.le_of_ble_eq_true rfl)) d_L_block_3 ⟨Nat.le_of_ble_eq_true rfl, Nat.le_of_ble_eq_true rfl⟩) hS hAi hown ht hNC hE.1 [] (0, 8, 11, 13) [] htab (fun y hy => absurd hy List.not_mem_nil) ⟨⟨by decide, by decide⟩, by decide, klc_13⟩ kcc_U (fun ax H locs hq hS => ?_)
  obtain ⟨u, hP, hD⟩ := hq
  have hD := hD.weaken (fun _ q _ h => hAi q.1 h)
  have hP : va_P D vwCl ((wX x0 lim a0 k0 u0 v0 t1 gen wrg rns als) ++ ((wH a0 d0 sz mo) ++ ((wO cL o0 og) ++ fr))) H := hP
  have hD : va_D A ((wX x0 lim a0 k0 u0 v0 t1 gen wrg rns als) ++ ((wH a0 d0 sz mo) ++ ((wO cL o0 og) ++ fr))) := hD
  refine lv_astore_n (lv' := [(2, .ref ax), (0, .ref x0), (1, .ref o0)]) hx hb d_L_block_11 rfl hl (by decide) rfl (fun ls hl => ?_)
  refine lv_iconst (v := 1) hx hb d_L_block_12 (by decide) ?_
  refine W.widen (k := 7) (n := 590) (by omega) (by omega) ?_
  rw [hQ]; exact retMi (w1 := fun u : Unit => ((wX x0 lim a0 k0 u0 v0 t1 gen wrg rns als) ++ ((wH a0 d0 sz mo) ++ ((wO cL o0 og) ++ fr)))) () hx hb hr hlocks hP hD hS rfl d_L_block_13

set_option maxHeartbeats 1000000 in
set_option maxRecDepth 100000 in
theorem c_L_block (l : Launch) (D : va_G) (cI cL cO : ClassId) (N t0 mi : Nat) (x0 : Nat) (lim : Int32) (a0 : Nat) (k0 : Nat) (u0 : Nat) (v0 : Nat) (t1 : Nat) (gen : Int32) (wrg : Int32) (rns : Int32) (als : Int32) (d0 : Nat) (sz : Int32) (mo : Int32) (cap : Nat) (rf : Nat → Option Nat) (o0 : Nat) (og : FL) (fr : va_W) (h24 : sz < 24) (hne : ¬ sz = Int32.ofNat cap) (hi : vp_in sz cap) : CHi l y_L_block w_L_block rm_L_block D cI cL cO N t0 mi [.ref x0, .ref o0] ((wX x0 lim a0 k0 u0 v0 t1 gen wrg rns als) ++ ((wH a0 d0 sz mo) ++ ((wR cO d0 cap rf) ++ ((wO cL o0 og) ++ fr)))) (fun (r : Int32) (u : (Nat × Nat × Nat × Nat × Nat × Nat) × FL) => r = 0 ∧ u.2 0 = ((sz + 1 - 1)).toInt64) (fun u : (Nat × Nat × Nat × Nat × Nat × Nat) × FL => (wH a0 d0 (sz + 1) (mo + 1) ++ (wR cO d0 cap (va_up rf sz.toNatClampNeg (some u.1.1)) ++ (wB cI u.1.1 u.1.2.1 u.1.2.2.1 u.1.2.2.2.1 u.1.2.2.2.2.1 u.1.2.2.2.2.2 (fun _ => 0) (fun _ => 0) (fun _ => 0) (fun _ => 0) (fun _ => 0) 0 0 0 (-1) ++ (wX x0 lim a0 k0 u0 v0 t1 gen wrg rns als ++ (wO cL o0 u.2 ++ fr)))))) 7 590 := by
  refine ofH (cc := b_L_block) (maxL := 3) (ret := (some .int)) (hh := [(0, 8, 11, 13)]) (by decide) rfl (Nat.le_of_ble_eq_true rfl) ?_
  intro p e s m below meth c A ls H Q hQ hx hb hr hlocks htab hts hown hml hP hK hD hS hA hl hE hN hAN hNC
  have hl : lv_has ls 3 [(0, .ref x0), (1, .ref o0)] := hl
  have hown : s.vm.findClass R_L = some m.cls := hown
  have ht : ∀ w ∈ BIG, w.before _ s = true := fun w h => hts w (List.mem_cons_of_mem _ h)
  refine lv_aload_n hx hb d_L_block_0 rfl (lv_at hl 1 rfl) ?_
  refine lv_iconst (v := 0) hx hb d_L_block_1 (by decide) ?_
  refine lv_aload_n hx hb d_L_block_2 rfl (lv_at hl 0 rfl) ?_
  refine goMi (va_runV (As := []) (rest := [.int 0, .ref o0]) ⟨hx, hb, hml, hown, hts⟩ (c_M_block l D cI cL cO N t0 mi x0 lim a0 k0 u0 v0 t1 gen wrg rns als d0 sz mo cap rf ((wO cL o0 og) ++ fr) h24 hne hi H.size) (cwV 0 hts (gBIG (m4 k_ml_L_7 k_im_M_block k_sel_M_block k_ini_M) k_co_M_block) rfl rfl rfl (by decide +kernel) ⟨Nat.le_of_ble_eq_true rfl, Nat.le_of_ble_eq_true rfl⟩) ⟨PX.bl, va_recv hK.1 hP (ci := 3) (q0 := 0) rfl rfl, PX.pre hP hD hK hE hS hAN hN⟩ rfl rfl hl.1 rfl (lv_room (Nat.le_of_ble_eq_true rfl)) d_L_block_3 ⟨Nat.le_of_ble_eq_true rfl, Nat.le_of_ble_eq_true rfl⟩) hD hS hA (fun r_3 u H locs hw hP hD hS => ?_)
  obtain ⟨v3_0, v3_1, v3_2, v3_3, v3_4, v3_5⟩ := u
  have hP : va_P D vwCl ((wH a0 d0 (sz + 1) (mo + 1)) ++ ((wR cO d0 cap (va_up rf sz.toNatClampNeg (some v3_0))) ++ ((wB cI v3_0 v3_1 v3_2 v3_3 v3_4 v3_5 (fun _ => 0) (fun _ => 0) (fun _ => 0) (fun _ => 0) (fun _ => 0) 0 0 0 (-1)) ++ ((wX x0 lim a0 k0 u0 v0 t1 gen wrg rns als) ++ ((wO cL o0 og) ++ fr))))) H := hP
  have hD : va_D A ((wH a0 d0 (sz + 1) (mo + 1)) ++ ((wR cO d0 cap (va_up rf sz.toNatClampNeg (some v3_0))) ++ ((wB cI v3_0 v3_1 v3_2 v3_3 v3_4 v3_5 (fun _ => 0) (fun _ => 0) (fun _ => 0) (fun _ => 0) (fun _ => 0) 0 0 0 (-1)) ++ ((wX x0 lim a0 k0 u0 v0 t1 gen wrg rns als) ++ ((wO cL o0 og) ++ fr))))) := hD
  obtain rfl : r_3 = sz + 1 - 1 := hw
  refine lv_i2l (v := (sz + 1 - 1).toInt64) hx hb d_L_block_6 rfl ?_
  refine va_last hx hb hK.1 hP hD hS 9 1 rfl rfl (by unfold vp_in; decide) d_L_block_7 (fun H locs hP hD hS => ?_)
  have hP : va_P D vwCl ((wH a0 d0 (sz + 1) (mo + 1)) ++ ((wR cO d0 cap (va_up rf sz.toNatClampNeg (some v3_0))) ++ ((wB cI v3_0 v3_1 v3_2 v3_3 v3_4 v3_5 (fun _ => 0) (fun _ => 0) (fun _ => 0) (fun _ => 0) (fun _ => 0) 0 0 0 (-1)) ++ ((wX x0 lim a0 k0 u0 v0 t1 gen wrg rns als) ++ ((wO cL o0 (vp_updL og (0 : Int32).toNatClampNeg ((sz + 1 - 1).toInt64))) ++ fr))))) H := hP
  have hD : va_D A ((wH a0 d0 (sz + 1) (mo + 1)) ++ ((wR cO d0 cap (va_up rf sz.toNatClampNeg (some v3_0))) ++ ((wB cI v3_0 v3_1 v3_2 v3_3 v3_4 v3_5 (fun _ => 0) (fun _ => 0) (fun _ => 0) (fun _ => 0) (fun _ => 0) 0 0 0 (-1)) ++ ((wX x0 lim a0 k0 u0 v0 t1 gen wrg rns als) ++ ((wO cL o0 (vp_updL og (0 : Int32).toNatClampNeg ((sz + 1 - 1).toInt64))) ++ fr))))) := hD
  refine lv_goto (tgt := 14) hx hb d_L_block_8 (by decide) ?_
  refine lv_iconst (v := 0) hx hb d_L_block_14 (by decide) ?_
  refine W.widen (k := 7) (n := 590) (by omega) (by omega) ?_
  rw [hQ]; exact retMi (w1 := fun u : (Nat × Nat × Nat × Nat × Nat × Nat) × FL => (wH a0 d0 (sz + 1) (mo + 1) ++ (wR cO d0 cap (va_up rf sz.toNatClampNeg (some u.1.1)) ++ (wB cI u.1.1 u.1.2.1 u.1.2.2.1 u.1.2.2.2.1 u.1.2.2.2.2.1 u.1.2.2.2.2.2 (fun _ => 0) (fun _ => 0) (fun _ => 0) (fun _ => 0) (fun _ => 0) 0 0 0 (-1) ++ (wX x0 lim a0 k0 u0 v0 t1 gen wrg rns als ++ (wO cL o0 u.2 ++ fr)))))) ((v3_0, v3_1, v3_2, v3_3, v3_4, v3_5), (vp_updL og (0 : Int32).toNatClampNeg ((sz + 1 - 1).toInt64))) hx hb hr hlocks hP hD hS ⟨rfl, (og0 (f := og))⟩ d_L_block_15

set_option maxHeartbeats 1000000 in
set_option maxRecDepth 100000 in
theorem c_L_blockf (l : Launch) (D : va_G) (cI cL cO : ClassId) (N t0 mi : Nat) (x0 : Nat) (lim : Int32) (a0 : Nat) (k0 : Nat) (u0 : Nat) (v0 : Nat) (t1 : Nat) (gen : Int32) (wrg : Int32) (rns : Int32) (als : Int32) (mo : Int32) (o0 : Nat) (og : FL) (fr : va_W) (h24 : (0 : Int32) < 24) : CHi l y_L_block w_L_block rm_L_block D cI cL cO N t0 mi [.ref x0, .ref o0] ((wX x0 lim a0 k0 u0 v0 t1 gen wrg rns als) ++ ((wH a0 t0 0 mo) ++ ((wO cL o0 og) ++ fr))) (fun (r : Int32) (u : (Nat × Nat × Nat × Nat × Nat × Nat × Nat) × FL) => r = 0 ∧ u.2 0 = (((0 + 1 - 1 : Int32))).toInt64) (fun u : (Nat × Nat × Nat × Nat × Nat × Nat × Nat) × FL => (wH a0 u.1.2.2.2.2.2.2 (0 + 1) (mo + 1) ++ (wR cO u.1.2.2.2.2.2.2 10 (va_up (fun _ => none) (0 : Int32).toNatClampNeg (some u.1.1)) ++ (wB cI u.1.1 u.1.2.1 u.1.2.2.1 u.1.2.2.2.1 u.1.2.2.2.2.1 u.1.2.2.2.2.2.1 (fun _ => 0) (fun _ => 0) (fun _ => 0) (fun _ => 0) (fun _ => 0) 0 0 0 (-1) ++ (wX x0 lim a0 k0 u0 v0 t1 gen wrg rns als ++ (wO cL o0 u.2 ++ fr)))))) 7 590 := by
  refine ofH (cc := b_L_block) (maxL := 3) (ret := (some .int)) (hh := [(0, 8, 11, 13)]) (by decide) rfl (Nat.le_of_ble_eq_true rfl) ?_
  intro p e s m below meth c A ls H Q hQ hx hb hr hlocks htab hts hown hml hP hK hD hS hA hl hE hN hAN hNC
  have hl : lv_has ls 3 [(0, .ref x0), (1, .ref o0)] := hl
  have hown : s.vm.findClass R_L = some m.cls := hown
  have ht : ∀ w ∈ BIG, w.before _ s = true := fun w h => hts w (List.mem_cons_of_mem _ h)
  refine lv_aload_n hx hb d_L_block_0 rfl (lv_at hl 1 rfl) ?_
  refine lv_iconst (v := 0) hx hb d_L_block_1 (by decide) ?_
  refine lv_aload_n hx hb d_L_block_2 rfl (lv_at hl 0 rfl) ?_
  refine goMi (va_runV (As := []) (rest := [.int 0, .ref o0]) ⟨hx, hb, hml, hown, hts⟩ (c_M_blockf l D cI cL cO N t0 mi x0 lim a0 k0 u0 v0 t1 gen wrg rns als mo ((wO cL o0 og) ++ fr) h24 H.size) (cwV 0 hts (gBIG (m4 k_ml_L_7 k_im_M_block k_sel_M_block k_ini_M) k_co_M_block) rfl rfl rfl (by decide +kernel) ⟨Nat.le_of_ble_eq_true rfl, Nat.le_of_ble_eq_true rfl⟩) ⟨PX.bl, va_recv hK.1 hP (ci := 3) (q0 := 0) rfl rfl, PX.pre hP hD hK hE hS hAN hN⟩ rfl rfl hl.1 rfl (lv_room (Nat.le_of_ble_eq_true rfl)) d_L_block_3 ⟨Nat.le_of_ble_eq_true rfl, Nat.le_of_ble_eq_true rfl⟩) hD hS hA (fun r_3 u H locs hw hP hD hS => ?_)
  obtain ⟨v3_0, v3_1, v3_2, v3_3, v3_4, v3_5, v3_6⟩ := u
  have hP : va_P D vwCl ((wH a0 v3_6 (0 + 1) (mo + 1)) ++ ((wR cO v3_6 10 (va_up (fun _ => none) (0 : Int32).toNatClampNeg (some v3_0))) ++ ((wB cI v3_0 v3_1 v3_2 v3_3 v3_4 v3_5 (fun _ => 0) (fun _ => 0) (fun _ => 0) (fun _ => 0) (fun _ => 0) 0 0 0 (-1)) ++ ((wX x0 lim a0 k0 u0 v0 t1 gen wrg rns als) ++ ((wO cL o0 og) ++ fr))))) H := hP
  have hD : va_D A ((wH a0 v3_6 (0 + 1) (mo + 1)) ++ ((wR cO v3_6 10 (va_up (fun _ => none) (0 : Int32).toNatClampNeg (some v3_0))) ++ ((wB cI v3_0 v3_1 v3_2 v3_3 v3_4 v3_5 (fun _ => 0) (fun _ => 0) (fun _ => 0) (fun _ => 0) (fun _ => 0) 0 0 0 (-1)) ++ ((wX x0 lim a0 k0 u0 v0 t1 gen wrg rns als) ++ ((wO cL o0 og) ++ fr))))) := hD
  obtain rfl : r_3 = (0 + 1 - 1 : Int32) := hw
  refine lv_i2l (v := (0 + 1 - 1 : Int32).toInt64) hx hb d_L_block_6 rfl ?_
  refine va_last hx hb hK.1 hP hD hS 9 1 rfl rfl (by unfold vp_in; decide) d_L_block_7 (fun H locs hP hD hS => ?_)
  have hP : va_P D vwCl ((wH a0 v3_6 (0 + 1) (mo + 1)) ++ ((wR cO v3_6 10 (va_up (fun _ => none) (0 : Int32).toNatClampNeg (some v3_0))) ++ ((wB cI v3_0 v3_1 v3_2 v3_3 v3_4 v3_5 (fun _ => 0) (fun _ => 0) (fun _ => 0) (fun _ => 0) (fun _ => 0) 0 0 0 (-1)) ++ ((wX x0 lim a0 k0 u0 v0 t1 gen wrg rns als) ++ ((wO cL o0 (vp_updL og (0 : Int32).toNatClampNeg ((0 + 1 - 1 : Int32).toInt64))) ++ fr))))) H := hP
  have hD : va_D A ((wH a0 v3_6 (0 + 1) (mo + 1)) ++ ((wR cO v3_6 10 (va_up (fun _ => none) (0 : Int32).toNatClampNeg (some v3_0))) ++ ((wB cI v3_0 v3_1 v3_2 v3_3 v3_4 v3_5 (fun _ => 0) (fun _ => 0) (fun _ => 0) (fun _ => 0) (fun _ => 0) 0 0 0 (-1)) ++ ((wX x0 lim a0 k0 u0 v0 t1 gen wrg rns als) ++ ((wO cL o0 (vp_updL og (0 : Int32).toNatClampNeg ((0 + 1 - 1 : Int32).toInt64))) ++ fr))))) := hD
  refine lv_goto (tgt := 14) hx hb d_L_block_8 (by decide) ?_
  refine lv_iconst (v := 0) hx hb d_L_block_14 (by decide) ?_
  refine W.widen (k := 7) (n := 590) (by omega) (by omega) ?_
  rw [hQ]; exact retMi (w1 := fun u : (Nat × Nat × Nat × Nat × Nat × Nat × Nat) × FL => (wH a0 u.1.2.2.2.2.2.2 (0 + 1) (mo + 1) ++ (wR cO u.1.2.2.2.2.2.2 10 (va_up (fun _ => none) (0 : Int32).toNatClampNeg (some u.1.1)) ++ (wB cI u.1.1 u.1.2.1 u.1.2.2.1 u.1.2.2.2.1 u.1.2.2.2.2.1 u.1.2.2.2.2.2.1 (fun _ => 0) (fun _ => 0) (fun _ => 0) (fun _ => 0) (fun _ => 0) 0 0 0 (-1) ++ (wX x0 lim a0 k0 u0 v0 t1 gen wrg rns als ++ (wO cL o0 u.2 ++ fr)))))) ((v3_0, v3_1, v3_2, v3_3, v3_4, v3_5, v3_6), (vp_updL og (0 : Int32).toNatClampNeg ((0 + 1 - 1 : Int32).toInt64))) hx hb hr hlocks hP hD hS ⟨rfl, (og0 (f := og))⟩ d_L_block_15

set_option maxHeartbeats 1000000 in
set_option maxRecDepth 100000 in
theorem c_L_blockg (l : Launch) (D : va_G) (cI cL cO : ClassId) (N t0 mi : Nat) (x0 : Nat) (lim : Int32) (a0 : Nat) (k0 : Nat) (u0 : Nat) (v0 : Nat) (t1 : Nat) (gen : Int32) (wrg : Int32) (rns : Int32) (als : Int32) (d0 : Nat) (sz : Int32) (mo : Int32) (cap : Nat) (rf : Nat → Option Nat) (o0 : Nat) (og : FL) (fr : va_W) (h24 : sz < 24) (cap2 : Nat) (hcp : 0 < cap) (hc : cap ≤ cap2) (hc2 : cap2 ≤ 40) (hel : elB rf cap fr) (hg : Int32.ofNat cap + maxF (sz + 1 - Int32.ofNat cap) (Int32.ofNat cap >>> ((1 : Int32) &&& 31)) = nI cap2) (hk : sz = Int32.ofNat cap) (hi : vp_in sz cap2) : CHi l y_L_block w_L_block rm_L_block D cI cL cO N t0 mi [.ref x0, .ref o0] ((wX x0 lim a0 k0 u0 v0 t1 gen wrg rns als) ++ ((wH a0 d0 sz mo) ++ ((wR cO d0 cap rf) ++ ((wO cL o0 og) ++ fr)))) (fun (r : Int32) (u : (Nat × Nat × Nat × Nat × Nat × Nat × Nat) × FL) => r = 0 ∧ u.2 0 = ((sz + 1 - 1)).toInt64) (fun u : (Nat × Nat × Nat × Nat × Nat × Nat × Nat) × FL => (wH a0 u.1.2.2.2.2.2.2 (sz + 1) (mo + 1) ++ (wR cO u.1.2.2.2.2.2.2 cap2 (va_up (va_cpy rf (fun _ => none) 0 0 cap) sz.toNatClampNeg (some u.1.1)) ++ (wB cI u.1.1 u.1.2.1 u.1.2.2.1 u.1.2.2.2.1 u.1.2.2.2.2.1 u.1.2.2.2.2.2.1 (fun _ => 0) (fun _ => 0) (fun _ => 0) (fun _ => 0) (fun _ => 0) 0 0 0 (-1) ++ (wX x0 lim a0 k0 u0 v0 t1 gen wrg rns als ++ (wO cL o0 u.2 ++ fr)))))) 7 590 := by
  refine ofH (cc := b_L_block) (maxL := 3) (ret := (some .int)) (hh := [(0, 8, 11, 13)]) (by decide) rfl (Nat.le_of_ble_eq_true rfl) ?_
  intro p e s m below meth c A ls H Q hQ hx hb hr hlocks htab hts hown hml hP hK hD hS hA hl hE hN hAN hNC
  have hl : lv_has ls 3 [(0, .ref x0), (1, .ref o0)] := hl
  have hown : s.vm.findClass R_L = some m.cls := hown
  have ht : ∀ w ∈ BIG, w.before _ s = true := fun w h => hts w (List.mem_cons_of_mem _ h)
  refine lv_aload_n hx hb d_L_block_0 rfl (lv_at hl 1 rfl) ?_
  refine lv_iconst (v := 0) hx hb d_L_block_1 (by decide) ?_
  refine lv_aload_n hx hb d_L_block_2 rfl (lv_at hl 0 rfl) ?_
  refine goMi (va_runV (As := []) (rest := [.int 0, .ref o0]) ⟨hx, hb, hml, hown, hts⟩ (c_M_blockg l D cI cL cO N t0 mi x0 lim a0 k0 u0 v0 t1 gen wrg rns als d0 sz mo cap rf ((wO cL o0 og) ++ fr) h24 cap2 hcp hc hc2 (elB_app _ hel) hg hk hi H.size) (cwV 0 hts (gBIG (m4 k_ml_L_7 k_im_M_block k_sel_M_block k_ini_M) k_co_M_block) rfl rfl rfl (by decide +kernel) ⟨Nat.le_of_ble_eq_true rfl, Nat.le_of_ble_eq_true rfl⟩) ⟨PX.bl, va_recv hK.1 hP (ci := 3) (q0 := 0) rfl rfl, PX.pre hP hD hK hE hS hAN hN⟩ rfl rfl hl.1 rfl (lv_room (Nat.le_of_ble_eq_true rfl)) d_L_block_3 ⟨Nat.le_of_ble_eq_true rfl, Nat.le_of_ble_eq_true rfl⟩) hD hS hA (fun r_3 u H locs hw hP hD hS => ?_)
  obtain ⟨v3_0, v3_1, v3_2, v3_3, v3_4, v3_5, v3_6⟩ := u
  have hP : va_P D vwCl ((wH a0 v3_6 (sz + 1) (mo + 1)) ++ ((wR cO v3_6 cap2 (va_up (va_cpy rf (fun _ => none) 0 0 cap) sz.toNatClampNeg (some v3_0))) ++ ((wB cI v3_0 v3_1 v3_2 v3_3 v3_4 v3_5 (fun _ => 0) (fun _ => 0) (fun _ => 0) (fun _ => 0) (fun _ => 0) 0 0 0 (-1)) ++ ((wX x0 lim a0 k0 u0 v0 t1 gen wrg rns als) ++ ((wO cL o0 og) ++ fr))))) H := hP
  have hD : va_D A ((wH a0 v3_6 (sz + 1) (mo + 1)) ++ ((wR cO v3_6 cap2 (va_up (va_cpy rf (fun _ => none) 0 0 cap) sz.toNatClampNeg (some v3_0))) ++ ((wB cI v3_0 v3_1 v3_2 v3_3 v3_4 v3_5 (fun _ => 0) (fun _ => 0) (fun _ => 0) (fun _ => 0) (fun _ => 0) 0 0 0 (-1)) ++ ((wX x0 lim a0 k0 u0 v0 t1 gen wrg rns als) ++ ((wO cL o0 og) ++ fr))))) := hD
  obtain rfl : r_3 = sz + 1 - 1 := hw
  refine lv_i2l (v := (sz + 1 - 1).toInt64) hx hb d_L_block_6 rfl ?_
  refine va_last hx hb hK.1 hP hD hS 9 1 rfl rfl (by unfold vp_in; decide) d_L_block_7 (fun H locs hP hD hS => ?_)
  have hP : va_P D vwCl ((wH a0 v3_6 (sz + 1) (mo + 1)) ++ ((wR cO v3_6 cap2 (va_up (va_cpy rf (fun _ => none) 0 0 cap) sz.toNatClampNeg (some v3_0))) ++ ((wB cI v3_0 v3_1 v3_2 v3_3 v3_4 v3_5 (fun _ => 0) (fun _ => 0) (fun _ => 0) (fun _ => 0) (fun _ => 0) 0 0 0 (-1)) ++ ((wX x0 lim a0 k0 u0 v0 t1 gen wrg rns als) ++ ((wO cL o0 (vp_updL og (0 : Int32).toNatClampNeg ((sz + 1 - 1).toInt64))) ++ fr))))) H := hP
  have hD : va_D A ((wH a0 v3_6 (sz + 1) (mo + 1)) ++ ((wR cO v3_6 cap2 (va_up (va_cpy rf (fun _ => none) 0 0 cap) sz.toNatClampNeg (some v3_0))) ++ ((wB cI v3_0 v3_1 v3_2 v3_3 v3_4 v3_5 (fun _ => 0) (fun _ => 0) (fun _ => 0) (fun _ => 0) (fun _ => 0) 0 0 0 (-1)) ++ ((wX x0 lim a0 k0 u0 v0 t1 gen wrg rns als) ++ ((wO cL o0 (vp_updL og (0 : Int32).toNatClampNeg ((sz + 1 - 1).toInt64))) ++ fr))))) := hD
  refine lv_goto (tgt := 14) hx hb d_L_block_8 (by decide) ?_
  refine lv_iconst (v := 0) hx hb d_L_block_14 (by decide) ?_
  refine W.widen (k := 7) (n := 590) (by omega) (by omega) ?_
  rw [hQ]; exact retMi (w1 := fun u : (Nat × Nat × Nat × Nat × Nat × Nat × Nat) × FL => (wH a0 u.1.2.2.2.2.2.2 (sz + 1) (mo + 1) ++ (wR cO u.1.2.2.2.2.2.2 cap2 (va_up (va_cpy rf (fun _ => none) 0 0 cap) sz.toNatClampNeg (some u.1.1)) ++ (wB cI u.1.1 u.1.2.1 u.1.2.2.1 u.1.2.2.2.1 u.1.2.2.2.2.1 u.1.2.2.2.2.2.1 (fun _ => 0) (fun _ => 0) (fun _ => 0) (fun _ => 0) (fun _ => 0) 0 0 0 (-1) ++ (wX x0 lim a0 k0 u0 v0 t1 gen wrg rns als ++ (wO cL o0 u.2 ++ fr)))))) ((v3_0, v3_1, v3_2, v3_3, v3_4, v3_5, v3_6), (vp_updL og (0 : Int32).toNatClampNeg ((sz + 1 - 1).toInt64))) hx hb hr hlocks hP hD hS ⟨rfl, (og0 (f := og))⟩ d_L_block_15

abbrev w_L_instruction : List Cond := .codeWith y_L_instruction b_L_instruction 7 (some .int) [(0, 14, 17, 19), (0, 14, 21, 21), (0, 14, 25, 13)] :: BIG
abbrev rm_L_instruction : Room := { frames := 9, cells := 1, slots := 6, locals := 330 }
set_option maxHeartbeats 1000000 in
set_option maxRecDepth 100000 in
theorem c_L_instruction (l : Launch) (D : va_G) (cI cL cO : ClassId) (N t0 mi : Nat) (x0 : Nat) (lim : Int32) (a0 : Nat) (k0 : Nat) (u0 : Nat) (v0 : Nat) (t1 : Nat) (gen : Int32) (wrg : Int32) (rns : Int32) (als : Int32) (d0 : Nat) (sz : Int32) (mo : Int32) (cap : Nat) (rf : Nat → Option Nat) (h0 : Nat) (q1 : Nat) (q2 : Nat) (q3 : Nat) (q4 : Nat) (q5 : Nat) (o : Fn) (f : Fn) (ee : Fn) (t : Fn) (b : Fn) (ic : Int32) (bc : Int32) (sa : Int32) (gn : Int32) (o0 : Nat) (og : FL) (fr : va_W) (bi : Int32) (op : Int32) (ra : Int32) (x : Int32) (hi0 : ¬ bi < 0) (hi1 : bi < sz) (hi2 : vp_in bi cap) (hi3 : rf bi.toNatClampNeg = some h0) (v1 : ¬ op < 0) (v2 : ¬ 7 < op) (v3 : ¬ isReg ra = 0) (v4 : ¬ isOpnd op x = 0) (v5 : ic < 60) (hic : ¬ ic < 0) : CHi l y_L_instruction w_L_instruction rm_L_instruction D cI cL cO N t0 mi [.ref x0, .int bi, .int op, .int ra, .int x, .ref o0] ((wX x0 lim a0 k0 u0 v0 t1 gen wrg rns als) ++ ((wH a0 d0 sz mo) ++ ((wR cO d0 cap rf) ++ ((wB cI h0 q1 q2 q3 q4 q5 o f ee t b ic bc sa gn) ++ ((wO cL o0 og) ++ fr))))) (fun (r : Int32) (u : (Fn × Fn × Fn × Fn × Int32 × Int32 × Int32 × Int32) × FL) => r = 0 ∧ ∃ rr : Int32, (rr = ic + 1 ∧ u.1 = (upd o ic.toNatClampNeg op, upd f ic.toNatClampNeg ra, upd ee ic.toNatClampNeg x, upd t (ic + 1).toNatClampNeg (t ic.toNatClampNeg + bytesF op x), ic + 1, 0, 0, -1)) ∧ u.2 0 = (rr).toInt64) (fun u : (Fn × Fn × Fn × Fn × Int32 × Int32 × Int32 × Int32) × FL => ((wX x0 lim a0 k0 u0 v0 t1 gen wrg rns als) ++ ((wH a0 d0 sz mo) ++ ((wR cO d0 cap rf) ++ ((wB cI h0 q1 q2 q3 q4 q5 u.1.1 u.1.2.1 u.1.2.2.1 u.1.2.2.2.1 b u.1.2.2.2.2.1 u.1.2.2.2.2.2.1 u.1.2.2.2.2.2.2.1 u.1.2.2.2.2.2.2.2) ++ ((wO cL o0 u.2) ++ fr)))))) 1 6 := by
  refine ofH (cc := b_L_instruction) (maxL := 7) (ret := (some .int)) (hh := [(0, 14, 17, 19), (0, 14, 21, 21), (0, 14, 25, 13)]) (by decide) rfl (Nat.le_of_ble_eq_true rfl) ?_
  intro p e s m below meth c A ls H Q hQ hx hb hr hlocks htab hts hown hml hP hK hD hS hA hl hE hN hAN hNC
  have hl : lv_has ls 7 [(0, .ref x0), (1, .int bi), (2, .int op), (3, .int ra), (4, .int x), (5, .ref o0)] := hl
  have hown : s.vm.findClass R_L = some m.cls := hown
  have ht : ∀ w ∈ BIG, w.before _ s = true := fun w h => hts w (List.mem_cons_of_mem _ h)
  refine lv_aload hx hb d_L_instruction_0 (lv_at hl 5 rfl) ?_
  refine lv_iconst (v := 0) hx hb d_L_instruction_2 (by decide) ?_
  refine lv_aload_n hx hb d_L_instruction_3 rfl (lv_at hl 0 rfl) ?_
  refine lv_iload_n hx hb d_L_instruction_4 rfl (lv_at hl 1 rfl) ?_
  refine lv_iload_n hx hb d_L_instruction_5 rfl (lv_at hl 2 rfl) ?_
  refine lv_iload_n hx hb d_L_instruction_6 rfl (lv_at hl 3 rfl) ?_
  refine lv_iload hx hb d_L_instruction_7 (lv_at hl 4 rfl) ?_
  refine goMi (va_runV (As := [.int bi, .int op, .int ra, .int x]) (rest := [.int 0, .ref o0]) ⟨hx, hb, hml, hown, hts⟩ (c_M_instruction l D cI cL cO x0 lim a0 k0 u0 v0 t1 gen wrg rns als d0 sz mo cap rf h0 q1 q2 q3 q4 q5 o f ee t b ic bc sa gn ((wO cL o0 og) ++ fr) bi op ra x hi0 hi1 hi2 hi3 v1 v2 v3 v4 v5 hic H.size) (cwV 4 hts (gBIG (m4 k_ml_L_15 k_im_M_instruction k_sel_M_instruction k_ini_M) k_co_M_instruction) rfl rfl rfl (by decide +kernel) ⟨Nat.le_of_ble_eq_true rfl, Nat.le_of_ble_eq_true rfl⟩) ⟨PM.bl, va_recv hK.1 hP (ci := 3) (q0 := 0) rfl rfl, PM.pre hP hD hK⟩ rfl rfl hl.1 rfl (lv_room (Nat.le_of_ble_eq_true rfl)) d_L_instruction_9 ⟨Nat.le_of_ble_eq_true rfl, Nat.le_of_ble_eq_true rfl⟩) hD hS hA (fun r_9 u H locs hw hP hD hS => ?_)
  obtain ⟨o_9, f_9, ee_9, t_9, ic_9, bc_9, sa_9, gn_9⟩ := u
  have e_9 : r_9 = ic + 1 ∧ (o_9, f_9, ee_9, t_9, ic_9, bc_9, sa_9, gn_9) = (upd o ic.toNatClampNeg op, upd f ic.toNatClampNeg ra, upd ee ic.toNatClampNeg x, upd t (ic + 1).toNatClampNeg (t ic.toNatClampNeg + bytesF op x), ic + 1, 0, 0, -1) := hw
  have hP : va_P D vwCl ((wX x0 lim a0 k0 u0 v0 t1 gen wrg rns als) ++ ((wH a0 d0 sz mo) ++ ((wR cO d0 cap rf) ++ ((wB cI h0 q1 q2 q3 q4 q5 o_9 f_9 ee_9 t_9 b ic_9 bc_9 sa_9 gn_9) ++ ((wO cL o0 og) ++ fr))))) H := hP
  have hD : va_D A ((wX x0 lim a0 k0 u0 v0 t1 gen wrg rns als) ++ ((wH a0 d0 sz mo) ++ ((wR cO d0 cap rf) ++ ((wB cI h0 q1 q2 q3 q4 q5 o_9 f_9 ee_9 t_9 b ic_9 bc_9 sa_9 gn_9) ++ ((wO cL o0 og) ++ fr))))) := hD
  refine lv_i2l (v := r_9.toInt64) hx hb d_L_instruction_12 rfl ?_
  refine va_last hx hb hK.1 hP hD hS 9 1 rfl rfl (by unfold vp_in; decide) d_L_instruction_13 (fun H locs hP hD hS => ?_)
  have hP : va_P D vwCl ((wX x0 lim a0 k0 u0 v0 t1 gen wrg rns als) ++ ((wH a0 d0 sz mo) ++ ((wR cO d0 cap rf) ++ ((wB cI h0 q1 q2 q3 q4 q5 o_9 f_9 ee_9 t_9 b ic_9 bc_9 sa_9 gn_9) ++ ((wO cL o0 (vp_updL og (0 : Int32).toNatClampNeg r_9.toInt64)) ++ fr))))) H := hP
  have hD : va_D A ((wX x0 lim a0 k0 u0 v0 t1 gen wrg rns als) ++ ((wH a0 d0 sz mo) ++ ((wR cO d0 cap rf) ++ ((wB cI h0 q1 q2 q3 q4 q5 o_9 f_9 ee_9 t_9 b ic_9 bc_9 sa_9 gn_9) ++ ((wO cL o0 (vp_updL og (0 : Int32).toNatClampNeg r_9.toInt64)) ++ fr))))) := hD
  refine lv_goto (tgt := 29) hx hb d_L_instruction_14 (by decide) ?_
  refine lv_iconst (v := 0) hx hb d_L_instruction_29 (by decide) ?_
  refine W.widen (k := 1) (n := 6) (by omega) (by omega) ?_
  rw [hQ]; exact retMi (w1 := fun u : (Fn × Fn × Fn × Fn × Int32 × Int32 × Int32 × Int32) × FL => ((wX x0 lim a0 k0 u0 v0 t1 gen wrg rns als) ++ ((wH a0 d0 sz mo) ++ ((wR cO d0 cap rf) ++ ((wB cI h0 q1 q2 q3 q4 q5 u.1.1 u.1.2.1 u.1.2.2.1 u.1.2.2.2.1 b u.1.2.2.2.2.1 u.1.2.2.2.2.2.1 u.1.2.2.2.2.2.2.1 u.1.2.2.2.2.2.2.2) ++ ((wO cL o0 u.2) ++ fr)))))) ((o_9, f_9, ee_9, t_9, ic_9, bc_9, sa_9, gn_9), (vp_updL og (0 : Int32).toNatClampNeg r_9.toInt64)) hx hb hr hlocks hP hD hS ⟨rfl, _, e_9, (og0 (f := og))⟩ d_L_instruction_30

set_option maxHeartbeats 1000000 in
set_option maxRecDepth 100000 in
theorem c_L_instructionX (l : Launch) (D : va_G) (cI cL cO : ClassId) (N t0 mi : Nat) (hl0 : l.stackTraces = false) (x0 : Nat) (lim : Int32) (a0 : Nat) (k0 : Nat) (u0 : Nat) (v0 : Nat) (t1 : Nat) (gen : Int32) (wrg : Int32) (rns : Int32) (als : Int32) (d0 : Nat) (sz : Int32) (mo : Int32) (o0 : Nat) (og : FL) (fr : va_W) (bi : Int32) (op : Int32) (ra : Int32) (x : Int32) (hbad : bi < 0 ∨ ¬ bi < sz) : CHi l y_L_instruction w_L_instruction rm_L_instruction D cI cL cO N t0 mi [.ref x0, .int bi, .int op, .int ra, .int x, .ref o0] ((wX x0 lim a0 k0 u0 v0 t1 gen wrg rns als) ++ ((wH a0 d0 sz mo) ++ ((wO cL o0 og) ++ fr))) (fun (r : Int32) (u : Unit) => r = 1) (fun u : Unit => ((wX x0 lim a0 k0 u0 v0 t1 gen wrg rns als) ++ ((wH a0 d0 sz mo) ++ ((wO cL o0 og) ++ fr)))) 1 6 := by
  refine ofH (cc := b_L_instruction) (maxL := 7) (ret := (some .int)) (hh := [(0, 14, 17, 19), (0, 14, 21, 21), (0, 14, 25, 13)]) (by decide) rfl (Nat.le_of_ble_eq_true rfl) ?_
  intro p e s m below meth c A ls H Q hQ hx hb hr hlocks htab hts hown hml hP hK hD hS hA hl hE hN hAN hNC
  have hl : lv_has ls 7 [(0, .ref x0), (1, .int bi), (2, .int op), (3, .int ra), (4, .int x), (5, .ref o0)] := hl
  have hown : s.vm.findClass R_L = some m.cls := hown
  have ht : ∀ w ∈ BIG, w.before _ s = true := fun w h => hts w (List.mem_cons_of_mem _ h)
  refine lv_aload hx hb d_L_instruction_0 (lv_at hl 5 rfl) ?_
  refine lv_iconst (v := 0) hx hb d_L_instruction_2 (by decide) ?_
  refine lv_aload_n hx hb d_L_instruction_3 rfl (lv_at hl 0 rfl) ?_
  refine lv_iload_n hx hb d_L_instruction_4 rfl (lv_at hl 1 rfl) ?_
  refine lv_iload_n hx hb d_L_instruction_5 rfl (lv_at hl 2 rfl) ?_
  refine lv_iload_n hx hb d_L_instruction_6 rfl (lv_at hl 3 rfl) ?_
  refine lv_iload hx hb d_L_instruction_7 (lv_at hl 4 rfl) ?_
  have hAi := A_in hD hS hA
  refine goT (N := N) (runT (As := [.int bi, .int op, .int ra, .int x]) (rest := [.int 0, .ref o0]) ⟨hx, hb, hml, hown, hts⟩ (c_M_instructionX l D cI cL cO N t0 mi hl0 x0 lim a0 k0 u0 v0 t1 gen wrg rns als d0 sz mo ((wO cL o0 og) ++ fr) bi op ra x hbad H.size) (cwV 4 hts (gBIG (m4 k_ml_L_15 k_im_M_instruction k_sel_M_instruction k_ini_M) k_co_M_instruction) rfl rfl rfl (by decide +kernel) ⟨Nat.le_of_ble_eq_true rfl, Nat.le_of_ble_eq_true rfl⟩) ⟨PX.bl, va_recv hK.1 hP (ci := 3) (q0 := 0) rfl rfl, PX.pre hP hD hK hE hS hAN hN⟩ rfl rfl hl.1 rfl (lv_room (Nat.le_of_ble_eq_true rfl)) d_L_instruction_9 ⟨Nat.le_of_ble_eq_true rfl, Nat.le_of_ble_eq_true rfl⟩) hS hAi hown ht hNC hE.1 [] (0, 14, 17, 19) [(0, 14, 21, 21), (0, 14, 25, 13)] htab (fun y hy => absurd hy List.not_mem_nil) ⟨⟨by decide, by decide⟩, by decide, klc_19⟩ kcc_X (fun ax H locs hq hS => ?_)
  obtain ⟨u, hP, hD⟩ := hq
  have hD := hD.weaken (fun _ q _ h => hAi q.1 h)
  have hP : va_P D vwCl ((wX x0 lim a0 k0 u0 v0 t1 gen wrg rns als) ++ ((wH a0 d0 sz mo) ++ ((wO cL o0 og) ++ fr))) H := hP
  have hD : va_D A ((wX x0 lim a0 k0 u0 v0 t1 gen wrg rns als) ++ ((wH a0 d0 sz mo) ++ ((wO cL o0 og) ++ fr))) := hD
  refine lv_astore (lv' := [(6, .ref ax), (0, .ref x0), (1, .int bi), (2, .int op), (3, .int ra), (4, .int x), (5, .ref o0)]) hx hb d_L_instruction_17 hl (by decide) rfl (fun ls hl => ?_)
  refine lv_iconst (v := 1) hx hb d_L_instruction_19 (by decide) ?_
  refine W.widen (k := 1) (n := 6) (by omega) (by omega) ?_
  rw [hQ]; exact retMi (w1 := fun u : Unit => ((wX x0 lim a0 k0 u0 v0 t1 gen wrg rns als) ++ ((wH a0 d0 sz mo) ++ ((wO cL o0 og) ++ fr)))) () hx hb hr hlocks hP hD hS rfl d_L_instruction_20

set_option maxHeartbeats 1000000 in
set_option maxRecDepth 100000 in
theorem c_L_instructionA (l : Launch) (D : va_G) (cI cL cO : ClassId) (N t0 mi : Nat) (hl0 : l.stackTraces = false) (x0 : Nat) (lim : Int32) (a0 : Nat) (k0 : Nat) (u0 : Nat) (v0 : Nat) (t1 : Nat) (gen : Int32) (wrg : Int32) (rns : Int32) (als : Int32) (d0 : Nat) (sz : Int32) (mo : Int32) (cap : Nat) (rf : Nat → Option Nat) (h0 : Nat) (q1 : Nat) (q2 : Nat) (q3 : Nat) (q4 : Nat) (q5 : Nat) (o : Fn) (f : Fn) (ee : Fn) (t : Fn) (b : Fn) (ic : Int32) (bc : Int32) (sa : Int32) (gn : Int32) (o0 : Nat) (og : FL) (fr : va_W) (bi : Int32) (op : Int32) (ra : Int32) (x : Int32) (hi0 : ¬ bi < 0) (hi1 : bi < sz) (hi2 : vp_in bi cap) (hi3 : rf bi.toNatClampNeg = some h0) (hbx : op < 0 ∨ 7 < op ∨ isReg ra = 0 ∨ isOpnd op x = 0) : CHi l y_L_instruction w_L_instruction rm_L_instruction D cI cL cO N t0 mi [.ref x0, .int bi, .int op, .int ra, .int x, .ref o0] ((wX x0 lim a0 k0 u0 v0 t1 gen wrg rns als) ++ ((wH a0 d0 sz mo) ++ ((wR cO d0 cap rf) ++ ((wB cI h0 q1 q2 q3 q4 q5 o f ee t b ic bc sa gn) ++ ((wO cL o0 og) ++ fr))))) (fun (r : Int32) (u : Unit) => r = 2) (fun u : Unit => ((wX x0 lim a0 k0 u0 v0 t1 gen wrg rns als) ++ ((wH a0 d0 sz mo) ++ ((wR cO d0 cap rf) ++ ((wB cI h0 q1 q2 q3 q4 q5 o f ee t b ic bc sa gn) ++ ((wO cL o0 og) ++ fr)))))) 1 6 := by
  refine ofH (cc := b_L_instruction) (maxL := 7) (ret := (some .int)) (hh := [(0, 14, 17, 19), (0, 14, 21, 21), (0, 14, 25, 13)]) (by decide) rfl (Nat.le_of_ble_eq_true rfl) ?_
  intro p e s m below meth c A ls H Q hQ hx hb hr hlocks htab hts hown hml hP hK hD hS hA hl hE hN hAN hNC
  have hl : lv_has ls 7 [(0, .ref x0), (1, .int bi), (2, .int op), (3, .int ra), (4, .int x), (5, .ref o0)] := hl
  have hown : s.vm.findClass R_L = some m.cls := hown
  have ht : ∀ w ∈ BIG, w.before _ s = true := fun w h => hts w (List.mem_cons_of_mem _ h)
  refine lv_aload hx hb d_L_instruction_0 (lv_at hl 5 rfl) ?_
  refine lv_iconst (v := 0) hx hb d_L_instruction_2 (by decide) ?_
  refine lv_aload_n hx hb d_L_instruction_3 rfl (lv_at hl 0 rfl) ?_
  refine lv_iload_n hx hb d_L_instruction_4 rfl (lv_at hl 1 rfl) ?_
  refine lv_iload_n hx hb d_L_instruction_5 rfl (lv_at hl 2 rfl) ?_
  refine lv_iload_n hx hb d_L_instruction_6 rfl (lv_at hl 3 rfl) ?_
  refine lv_iload hx hb d_L_instruction_7 (lv_at hl 4 rfl) ?_
  have hAi := A_in hD hS hA
  refine goT (N := N) (runT (As := [.int bi, .int op, .int ra, .int x]) (rest := [.int 0, .ref o0]) ⟨hx, hb, hml, hown, hts⟩ (c_M_instructionA l D cI cL cO N t0 mi hl0 x0 lim a0 k0 u0 v0 t1 gen wrg rns als d0 sz mo cap rf h0 q1 q2 q3 q4 q5 o f ee t b ic bc sa gn ((wO cL o0 og) ++ fr) bi op ra x hi0 hi1 hi2 hi3 hbx H.size) (cwV 4 hts (gBIG (m4 k_ml_L_15 k_im_M_instruction k_sel_M_instruction k_ini_M) k_co_M_instruction) rfl rfl rfl (by decide +kernel) ⟨Nat.le_of_ble_eq_true rfl, Nat.le_of_ble_eq_true rfl⟩) ⟨PX.bl, va_recv hK.1 hP (ci := 3) (q0 := 0) rfl rfl, PX.pre hP hD hK hE hS hAN hN⟩ rfl rfl hl.1 rfl (lv_room (Nat.le_of_ble_eq_true rfl)) d_L_instruction_9 ⟨Nat.le_of_ble_eq_true rfl, Nat.le_of_ble_eq_true rfl⟩) hS hAi hown ht hNC hE.1 [(0, 14, 17, 19)] (0, 14, 21, 21) [(0, 14, 25, 13)] htab (by intro y hy; rcases List.mem_cons.mp hy with rfl | hy; exact ⟨⟨by decide, by decide⟩, by decide, _, klc_19, by decide +kernel⟩; exact absurd hy List.not_mem_nil) ⟨⟨by decide, by decide⟩, by decide, klc_21⟩ kcc_A (fun ax H locs hq hS => ?_)
  obtain ⟨u, hP, hD⟩ := hq
  have hD := hD.weaken (fun _ q _ h => hAi q.1 h)
  have hP : va_P D vwCl ((wX x0 lim a0 k0 u0 v0 t1 gen wrg rns als) ++ ((wH a0 d0 sz mo) ++ ((wR cO d0 cap rf) ++ ((wB cI h0 q1 q2 q3 q4 q5 o f ee t b ic bc sa gn) ++ ((wO cL o0 og) ++ fr))))) H := hP
  have hD : va_D A ((wX x0 lim a0 k0 u0 v0 t1 gen wrg rns als) ++ ((wH a0 d0 sz mo) ++ ((wR cO d0 cap rf) ++ ((wB cI h0 q1 q2 q3 q4 q5 o f ee t b ic bc sa gn) ++ ((wO cL o0 og) ++ fr))))) := hD
  refine lv_astore (lv' := [(6, .ref ax), (0, .ref x0), (1, .int bi), (2, .int op), (3, .int ra), (4, .int x), (5, .ref o0)]) hx hb d_L_instruction_21 hl (by decide) rfl (fun ls hl => ?_)
  refine lv_iconst (v := 2) hx hb d_L_instruction_23 (by decide) ?_
  refine W.widen (k := 1) (n := 6) (by omega) (by omega) ?_
  rw [hQ]; exact retMi (w1 := fun u : Unit => ((wX x0 lim a0 k0 u0 v0 t1 gen wrg rns als) ++ ((wH a0 d0 sz mo) ++ ((wR cO d0 cap rf) ++ ((wB cI h0 q1 q2 q3 q4 q5 o f ee t b ic bc sa gn) ++ ((wO cL o0 og) ++ fr)))))) () hx hb hr hlocks hP hD hS rfl d_L_instruction_24

set_option maxHeartbeats 1000000 in
set_option maxRecDepth 100000 in
theorem c_L_instructionU (l : Launch) (D : va_G) (cI cL cO : ClassId) (N t0 mi : Nat) (hl0 : l.stackTraces = false) (x0 : Nat) (lim : Int32) (a0 : Nat) (k0 : Nat) (u0 : Nat) (v0 : Nat) (t1 : Nat) (gen : Int32) (wrg : Int32) (rns : Int32) (als : Int32) (d0 : Nat) (sz : Int32) (mo : Int32) (cap : Nat) (rf : Nat → Option Nat) (h0 : Nat) (q1 : Nat) (q2 : Nat) (q3 : Nat) (q4 : Nat) (q5 : Nat) (o : Fn) (f : Fn) (ee : Fn) (t : Fn) (b : Fn) (ic : Int32) (bc : Int32) (sa : Int32) (gn : Int32) (o0 : Nat) (og : FL) (fr : va_W) (bi : Int32) (op : Int32) (ra : Int32) (x : Int32) (hi0 : ¬ bi < 0) (hi1 : bi < sz) (hi2 : vp_in bi cap) (hi3 : rf bi.toNatClampNeg = some h0) (v1 : ¬ op < 0) (v2 : ¬ 7 < op) (v3 : ¬ isReg ra = 0) (v4 : ¬ isOpnd op x = 0) (v5 : ¬ ic < 60) : CHi l y_L_instruction w_L_instruction rm_L_instruction D cI cL cO N t0 mi [.ref x0, .int bi, .int op, .int ra, .int x, .ref o0] ((wX x0 lim a0 k0 u0 v0 t1 gen wrg rns als) ++ ((wH a0 d0 sz mo) ++ ((wR cO d0 cap rf) ++ ((wB cI h0 q1 q2 q3 q4 q5 o f ee t b ic bc sa gn) ++ ((wO cL o0 og) ++ fr))))) (fun (r : Int32) (u : Unit) => r = 3) (fun u : Unit => ((wX x0 lim a0 k0 u0 v0 t1 gen wrg rns als) ++ ((wH a0 d0 sz mo) ++ ((wR cO d0 cap rf) ++ ((wB cI h0 q1 q2 q3 q4 q5 o f ee t b ic bc sa gn) ++ ((wO cL o0 og) ++ fr)))))) 1 6 := by
  refine ofH (cc := b_L_instruction) (maxL := 7) (ret := (some .int)) (hh := [(0, 14, 17, 19), (0, 14, 21, 21), (0, 14, 25, 13)]) (by decide) rfl (Nat.le_of_ble_eq_true rfl) ?_
  intro p e s m below meth c A ls H Q hQ hx hb hr hlocks htab hts hown hml hP hK hD hS hA hl hE hN hAN hNC
  have hl : lv_has ls 7 [(0, .ref x0), (1, .int bi), (2, .int op), (3, .int ra), (4, .int x), (5, .ref o0)] := hl
  have hown : s.vm.findClass R_L = some m.cls := hown
  have ht : ∀ w ∈ BIG, w.before _ s = true := fun w h => hts w (List.mem_cons_of_mem _ h)
  refine lv_aload hx hb d_L_instruction_0 (lv_at hl 5 rfl) ?_
  refine lv_iconst (v := 0) hx hb d_L_instruction_2 (by decide) ?_
  refine lv_aload_n hx hb d_L_instruction_3 rfl (lv_at hl 0 rfl) ?_
  refine lv_iload_n hx hb d_L_instruction_4 rfl (lv_at hl 1 rfl) ?_
  refine lv_iload_n hx hb d_L_instruction_5 rfl (lv_at hl 2 rfl) ?_
  refine lv_iload_n hx hb d_L_instruction_6 rfl (lv_at hl 3 rfl) ?_
  refine lv_iload hx hb d_L_instruction_7 (lv_at hl 4 rfl) ?_
  have hAi := A_in hD hS hA
  refine goT (N := N) (runT (As := [.int bi, .int op, .int ra, .int x]) (rest := [.int 0, .ref o0]) ⟨hx, hb, hml, hown, hts⟩ (c_M_instructionU l D cI cL cO N t0 mi hl0 x0 lim a0 k0 u0 v0 t1 gen wrg rns als d0 sz mo cap rf h0 q1 q2 q3 q4 q5 o f ee t b ic bc sa gn ((wO cL o0 og) ++ fr) bi op ra x hi0 hi1 hi2 hi3 v1 v2 v3 v4 v5 H.size) (cwV 4 hts (gBIG (m4 k_ml_L_15 k_im_M_instruction k_sel_M_instruction k_ini_M) k_co_M_instruction) rfl rfl rfl (by decide +kernel) ⟨Nat.le_of_ble_eq_true rfl, Nat.le_of_ble_eq_true rfl⟩) ⟨PX.bl, va_recv hK.1 hP (ci := 3) (q0 := 0) rfl rfl, PX.pre hP hD hK hE hS hAN hN⟩ rfl rfl hl.1 rfl (lv_room (Nat.le_of_ble_eq_true rfl)) d_L_instruction_9 ⟨Nat.le_of_ble_eq_true rfl, Nat.le_of_ble_eq_true rfl⟩) hS hAi hown ht hNC hE.1 [(0, 14, 17, 19), (0, 14, 21, 21)] (0, 14, 25, 13) [] htab (by intro y hy; rcases List.mem_cons.mp hy with rfl | hy; exact ⟨⟨by decide, by decide⟩, by decide, _, klc_19, by decide +kernel⟩; rcases List.mem_cons.mp hy with rfl | hy; exact ⟨⟨by decide, by decide⟩, by decide, _, klc_21, by decide +kernel⟩; exact absurd hy List.not_mem_nil) ⟨⟨by decide, by decide⟩, by decide, klc_13⟩ kcc_U (fun ax H locs hq hS => ?_)
  obtain ⟨u, hP, hD⟩ := hq
  have hD := hD.weaken (fun _ q _ h => hAi q.1 h)
  have hP : va_P D vwCl ((wX x0 lim a0 k0 u0 v0 t1 gen wrg rns als) ++ ((wH a0 d0 sz mo) ++ ((wR cO d0 cap rf) ++ ((wB cI h0 q1 q2 q3 q4 q5 o f ee t b ic bc sa gn) ++ ((wO cL o0 og) ++ fr))))) H := hP
  have hD : va_D A ((wX x0 lim a0 k0 u0 v0 t1 gen wrg rns als) ++ ((wH a0 d0 sz mo) ++ ((wR cO d0 cap rf) ++ ((wB cI h0 q1 q2 q3 q4 q5 o f ee t b ic bc sa gn) ++ ((wO cL o0 og) ++ fr))))) := hD
  refine lv_astore (lv' := [(6, .ref ax), (0, .ref x0), (1, .int bi), (2, .int op), (3, .int ra), (4, .int x), (5, .ref o0)]) hx hb d_L_instruction_25 hl (by decide) rfl (fun ls hl => ?_)
  refine lv_iconst (v := 3) hx hb d_L_instruction_27 (by decide) ?_
  refine W.widen (k := 1) (n := 6) (by omega) (by omega) ?_
  rw [hQ]; exact retMi (w1 := fun u : Unit => ((wX x0 lim a0 k0 u0 v0 t1 gen wrg rns als) ++ ((wH a0 d0 sz mo) ++ ((wR cO d0 cap rf) ++ ((wB cI h0 q1 q2 q3 q4 q5 o f ee t b ic bc sa gn) ++ ((wO cL o0 og) ++ fr)))))) () hx hb hr hlocks hP hD hS rfl d_L_instruction_28

abbrev w_L_make : List Cond := .codeWith y_L_make b_L_make 4 (some .int) [(0, 9, 12, 19)] :: BIG
abbrev rm_L_make : Room := { frames := 9, cells := 1, slots := 6, locals := 330 }
set_option maxHeartbeats 1000000 in
set_option maxRecDepth 100000 in
theorem c_L_make (l : Launch) (D : va_G) (cI cL cO : ClassId) (N t0 mi : Nat) (x0 : Nat) (lim : Int32) (a0 : Nat) (k0 : Nat) (u0 : Nat) (v0 : Nat) (t1 : Nat) (gen : Int32) (wrg : Int32) (rns : Int32) (als : Int32) (d0 : Nat) (sz : Int32) (mo : Int32) (cap : Nat) (rf : Nat → Option Nat) (h0 : Nat) (q1 : Nat) (q2 : Nat) (q3 : Nat) (q4 : Nat) (q5 : Nat) (o : Fn) (f : Fn) (ee : Fn) (t : Fn) (b : Fn) (ic : Int32) (bc : Int32) (sa : Int32) (gn : Int32) (o0 : Nat) (og : FL) (fr : va_W) (bi : Int32) (hi0 : ¬ bi < 0) (hi1 : bi < sz) (hi2 : vp_in bi cap) (hi3 : rf bi.toNatClampNeg = some h0) : CHi l y_L_make w_L_make rm_L_make D cI cL cO N t0 mi [.ref x0, .int bi, .ref o0] ((wX x0 lim a0 k0 u0 v0 t1 gen wrg rns als) ++ ((wH a0 d0 sz mo) ++ ((wR cO d0 cap rf) ++ ((wB cI h0 q1 q2 q3 q4 q5 o f ee t b ic bc sa gn) ++ ((wO cL o0 og) ++ fr))))) (fun (r : Int32) (u : (Fn × Int32 × Int32 × Int32) × FL) => r = 0 ∧ ∃ rr : Int32, ((rr, u.1) = mkM o f ee t b ic gen) ∧ u.2 0 = (rr).toInt64) (fun u : (Fn × Int32 × Int32 × Int32) × FL => ((wX x0 lim a0 k0 u0 v0 t1 gen wrg rns als) ++ ((wH a0 d0 sz mo) ++ ((wR cO d0 cap rf) ++ ((wB cI h0 q1 q2 q3 q4 q5 o f ee t u.1.1 ic u.1.2.1 u.1.2.2.1 u.1.2.2.2) ++ ((wO cL o0 u.2) ++ fr)))))) 1 6 := by
  refine ofH (cc := b_L_make) (maxL := 4) (ret := (some .int)) (hh := [(0, 9, 12, 19)]) (by decide) rfl (Nat.le_of_ble_eq_true rfl) ?_
  intro p e s m below meth c A ls H Q hQ hx hb hr hlocks htab hts hown hml hP hK hD hS hA hl hE hN hAN hNC
  have hl : lv_has ls 4 [(0, .ref x0), (1, .int bi), (2, .ref o0)] := hl
  have hown : s.vm.findClass R_L = some m.cls := hown
  have ht : ∀ w ∈ BIG, w.before _ s = true := fun w h => hts w (List.mem_cons_of_mem _ h)
  refine lv_aload_n hx hb d_L_make_0 rfl (lv_at hl 2 rfl) ?_
  refine lv_iconst (v := 0) hx hb d_L_make_1 (by decide) ?_
  refine lv_aload_n hx hb d_L_make_2 rfl (lv_at hl 0 rfl) ?_
  refine lv_iload_n hx hb d_L_make_3 rfl (lv_at hl 1 rfl) ?_
  refine goMi (va_runV (As := [.int bi]) (rest := [.int 0, .ref o0]) ⟨hx, hb, hml, hown, hts⟩ (c_M_make l D cI cL cO x0 lim a0 k0 u0 v0 t1 gen wrg rns als d0 sz mo cap rf h0 q1 q2 q3 q4 q5 o f ee t b ic bc sa gn ((wO cL o0 og) ++ fr) bi hi0 hi1 hi2 hi3 H.size) (cwV 1 hts (gBIG (m4 k_ml_L_23 k_im_M_make k_sel_M_make k_ini_M) k_co_M_make) rfl rfl rfl (by decide +kernel) ⟨Nat.le_of_ble_eq_true rfl, Nat.le_of_ble_eq_true rfl⟩) ⟨PM.bl, va_recv hK.1 hP (ci := 3) (q0 := 0) rfl rfl, PM.pre hP hD hK⟩ rfl rfl hl.1 rfl (lv_room (Nat.le_of_ble_eq_true rfl)) d_L_make_4 ⟨Nat.le_of_ble_eq_true rfl, Nat.le_of_ble_eq_true rfl⟩) hD hS hA (fun r_4 u H locs hw hP hD hS => ?_)
  obtain ⟨b_4, bc_4, sa_4, gn_4⟩ := u
  have e_4 : (r_4, (b_4, bc_4, sa_4, gn_4)) = mkM o f ee t b ic gen := hw
  have hP : va_P D vwCl ((wX x0 lim a0 k0 u0 v0 t1 gen wrg rns als) ++ ((wH a0 d0 sz mo) ++ ((wR cO d0 cap rf) ++ ((wB cI h0 q1 q2 q3 q4 q5 o f ee t b_4 ic bc_4 sa_4 gn_4) ++ ((wO cL o0 og) ++ fr))))) H := hP
  have hD : va_D A ((wX x0 lim a0 k0 u0 v0 t1 gen wrg rns als) ++ ((wH a0 d0 sz mo) ++ ((wR cO d0 cap rf) ++ ((wB cI h0 q1 q2 q3 q4 q5 o f ee t b_4 ic bc_4 sa_4 gn_4) ++ ((wO cL o0 og) ++ fr))))) := hD
  refine lv_i2l (v := r_4.toInt64) hx hb d_L_make_7 rfl ?_
  refine va_last hx hb hK.1 hP hD hS 9 1 rfl rfl (by unfold vp_in; decide) d_L_make_8 (fun H locs hP hD hS => ?_)
  have hP : va_P D vwCl ((wX x0 lim a0 k0 u0 v0 t1 gen wrg rns als) ++ ((wH a0 d0 sz mo) ++ ((wR cO d0 cap rf) ++ ((wB cI h0 q1 q2 q3 q4 q5 o f ee t b_4 ic bc_4 sa_4 gn_4) ++ ((wO cL o0 (vp_updL og (0 : Int32).toNatClampNeg r_4.toInt64)) ++ fr))))) H := hP
  have hD : va_D A ((wX x0 lim a0 k0 u0 v0 t1 gen wrg rns als) ++ ((wH a0 d0 sz mo) ++ ((wR cO d0 cap rf) ++ ((wB cI h0 q1 q2 q3 q4 q5 o f ee t b_4 ic bc_4 sa_4 gn_4) ++ ((wO cL o0 (vp_updL og (0 : Int32).toNatClampNeg r_4.toInt64)) ++ fr))))) := hD
  refine lv_goto (tgt := 15) hx hb d_L_make_9 (by decide) ?_
  refine lv_iconst (v := 0) hx hb d_L_make_15 (by decide) ?_
  refine W.widen (k := 1) (n := 6) (by omega) (by omega) ?_
  rw [hQ]; exact retMi (w1 := fun u : (Fn × Int32 × Int32 × Int32) × FL => ((wX x0 lim a0 k0 u0 v0 t1 gen wrg rns als) ++ ((wH a0 d0 sz mo) ++ ((wR cO d0 cap rf) ++ ((wB cI h0 q1 q2 q3 q4 q5 o f ee t u.1.1 ic u.1.2.1 u.1.2.2.1 u.1.2.2.2) ++ ((wO cL o0 u.2) ++ fr)))))) ((b_4, bc_4, sa_4, gn_4), (vp_updL og (0 : Int32).toNatClampNeg r_4.toInt64)) hx hb hr hlocks hP hD hS ⟨rfl, _, e_4, (og0 (f := og))⟩ d_L_make_16

set_option maxHeartbeats 1000000 in
set_option maxRecDepth 100000 in
theorem c_L_makeX (l : Launch) (D : va_G) (cI cL cO : ClassId) (N t0 mi : Nat) (hl0 : l.stackTraces = false) (x0 : Nat) (lim : Int32) (a0 : Nat) (k0 : Nat) (u0 : Nat) (v0 : Nat) (t1 : Nat) (gen : Int32) (wrg : Int32) (rns : Int32) (als : Int32) (d0 : Nat) (sz : Int32) (mo : Int32) (o0 : Nat) (og : FL) (fr : va_W) (bi : Int32) (hbad : bi < 0 ∨ ¬ bi < sz) : CHi l y_L_make w_L_make rm_L_make D cI cL cO N t0 mi [.ref x0, .int bi, .ref o0] ((wX x0 lim a0 k0 u0 v0 t1 gen wrg rns als) ++ ((wH a0 d0 sz mo) ++ ((wO cL o0 og) ++ fr))) (fun (r : Int32) (u : Unit) => r = 1) (fun u : Unit => ((wX x0 lim a0 k0 u0 v0 t1 gen wrg rns als) ++ ((wH a0 d0 sz mo) ++ ((wO cL o0 og) ++ fr)))) 1 6 := by
  refine ofH (cc := b_L_make) (maxL := 4) (ret := (some .int)) (hh := [(0, 9, 12, 19)]) (by decide) rfl (Nat.le_of_ble_eq_true rfl) ?_
  intro p e s m below meth c A ls H Q hQ hx hb hr hlocks htab hts hown hml hP hK hD hS hA hl hE hN hAN hNC
  have hl : lv_has ls 4 [(0, .ref x0), (1, .int bi), (2, .ref o0)] := hl
  have hown : s.vm.findClass R_L = some m.cls := hown
  have ht : ∀ w ∈ BIG, w.before _ s = true := fun w h => hts w (List.mem_cons_of_mem _ h)
  refine lv_aload_n hx hb d_L_make_0 rfl (lv_at hl 2 rfl) ?_
  refine lv_iconst (v := 0) hx hb d_L_make_1 (by decide) ?_
  refine lv_aload_n hx hb d_L_make_2 rfl (lv_at hl 0 rfl) ?_
  refine lv_iload_n hx hb d_L_make_3 rfl (lv_at hl 1 rfl) ?_
  have hAi := A_in hD hS hA
  refine goT (N := N) (runT (As := [.int bi]) (rest := [.int 0, .ref o0]) ⟨hx, hb, hml, hown, hts⟩ (c_M_makeX l D cI cL cO N t0 mi hl0 x0 lim a0 k0 u0 v0 t1 gen wrg rns als d0 sz mo ((wO cL o0 og) ++ fr) bi hbad H.size) (cwV 1 hts (gBIG (m4 k_ml_L_23 k_im_M_make k_sel_M_make k_ini_M) k_co_M_make) rfl rfl rfl (by decide +kernel) ⟨Nat.le_of_ble_eq_true rfl, Nat.le_of_ble_eq_true rfl⟩) ⟨PX.bl, va_recv hK.1 hP (ci := 3) (q0 := 0) rfl rfl, PX.pre hP hD hK hE hS hAN hN⟩ rfl rfl hl.1 rfl (lv_room (Nat.le_of_ble_eq_true rfl)) d_L_make_4 ⟨Nat.le_of_ble_eq_true rfl, Nat.le_of_ble_eq_true rfl⟩) hS hAi hown ht hNC hE.1 [] (0, 9, 12, 19) [] htab (fun y hy => absurd hy List.not_mem_nil) ⟨⟨by decide, by decide⟩, by decide, klc_19⟩ kcc_X (fun ax H locs hq hS => ?_)
  obtain ⟨u, hP, hD⟩ := hq
  have hD := hD.weaken (fun _ q _ h => hAi q.1 h)
  have hP : va_P D vwCl ((wX x0 lim a0 k0 u0 v0 t1 gen wrg rns als) ++ ((wH a0 d0 sz mo) ++ ((wO cL o0 og) ++ fr))) H := hP
  have hD : va_D A ((wX x0 lim a0 k0 u0 v0 t1 gen wrg rns als) ++ ((wH a0 d0 sz mo) ++ ((wO cL o0 og) ++ fr))) := hD
  refine lv_astore_n (lv' := [(3, .ref ax), (0, .ref x0), (1, .int bi), (2, .ref o0)]) hx hb d_L_make_12 rfl hl (by decide) rfl (fun ls hl => ?_)
  refine lv_iconst (v := 1) hx hb d_L_make_13 (by decide) ?_
  refine W.widen (k := 1) (n := 6) (by omega) (by omega) ?_
  rw [hQ]; exact retMi (w1 := fun u : Unit => ((wX x0 lim a0 k0 u0 v0 t1 gen wrg rns als) ++ ((wH a0 d0 sz mo) ++ ((wO cL o0 og) ++ fr)))) () hx hb hr hlocks hP hD hS rfl d_L_make_14

abbrev w_L_byteAt : List Cond := .codeWith y_L_byteAt b_L_byteAt 5 (some .int) [(0, 10, 13, 19), (0, 10, 17, 31), (0, 10, 21, 21)] :: BIG
abbrev rm_L_byteAt : Room := { frames := 9, cells := 1, slots := 6, locals := 330 }
set_option maxHeartbeats 1000000 in
set_option maxRecDepth 100000 in
theorem c_L_byteAt (l : Launch) (D : va_G) (cI cL cO : ClassId) (N t0 mi : Nat) (x0 : Nat) (lim : Int32) (a0 : Nat) (k0 : Nat) (u0 : Nat) (v0 : Nat) (t1 : Nat) (gen : Int32) (wrg : Int32) (rns : Int32) (als : Int32) (d0 : Nat) (sz : Int32) (mo : Int32) (cap : Nat) (rf : Nat → Option Nat) (h0 : Nat) (q1 : Nat) (q2 : Nat) (q3 : Nat) (q4 : Nat) (q5 : Nat) (o : Fn) (f : Fn) (ee : Fn) (t : Fn) (b : Fn) (ic : Int32) (bc : Int32) (sa : Int32) (gn : Int32) (o0 : Nat) (og : FL) (fr : va_W) (bi : Int32) (i : Int32) (hi0 : ¬ bi < 0) (hi1 : bi < sz) (hi2 : vp_in bi cap) (hi3 : rf bi.toNatClampNeg = some h0) (v1 : ¬ sa = 0) (v2 : ¬ hasF bc i = 0) : CHi l y_L_byteAt w_L_byteAt rm_L_byteAt D cI cL cO N t0 mi [.ref x0, .int bi, .int i, .ref o0] ((wX x0 lim a0 k0 u0 v0 t1 gen wrg rns als) ++ ((wH a0 d0 sz mo) ++ ((wR cO d0 cap rf) ++ ((wB cI h0 q1 q2 q3 q4 q5 o f ee t b ic bc sa gn) ++ ((wO cL o0 og) ++ fr))))) (fun (r : Int32) (u : FL) => r = 0 ∧ u 0 = ((rdF b bc i)).toInt64) (fun u : FL => ((wX x0 lim a0 k0 u0 v0 t1 gen wrg rns als) ++ ((wH a0 d0 sz mo) ++ ((wR cO d0 cap rf) ++ ((wB cI h0 q1 q2 q3 q4 q5 o f ee t b ic bc sa gn) ++ ((wO cL o0 u) ++ fr)))))) 1 6 := by
  refine ofH (cc := b_L_byteAt) (maxL := 5) (ret := (some .int)) (hh := [(0, 10, 13, 19), (0, 10, 17, 31), (0, 10, 21, 21)]) (by decide) rfl (Nat.le_of_ble_eq_true rfl) ?_
  intro p e s m below meth c A ls H Q hQ hx hb hr hlocks htab hts hown hml hP hK hD hS hA hl hE hN hAN hNC
  have hl : lv_has ls 5 [(0, .ref x0), (1, .int bi), (2, .int i), (3, .ref o0)] := hl
  have hown : s.vm.findClass R_L = some m.cls := hown
  have ht : ∀ w ∈ BIG, w.before _ s = true := fun w h => hts w (List.mem_cons_of_mem _ h)
  refine lv_aload_n hx hb d_L_byteAt_0 rfl (lv_at hl 3 rfl) ?_
  refine lv_iconst (v := 0) hx hb d_L_byteAt_1 (by decide) ?_
  refine lv_aload_n hx hb d_L_byteAt_2 rfl (lv_at hl 0 rfl) ?_
  refine lv_iload_n hx hb d_L_byteAt_3 rfl (lv_at hl 1 rfl) ?_
  refine lv_iload_n hx hb d_L_byteAt_4 rfl (lv_at hl 2 rfl) ?_
  refine goRi (va_runV (As := [.int bi, .int i]) (rest := [.int 0, .ref o0]) ⟨hx, hb, hml, hown, hts⟩ (c_M_byteAt l D cI cL cO x0 lim a0 k0 u0 v0 t1 gen wrg rns als d0 sz mo cap rf h0 q1 q2 q3 q4 q5 o f ee t b ic bc sa gn bi i hi0 hi1 hi2 hi3 v1 v2) (cwV 2 hts (gBIG (m4 k_ml_L_27 k_im_M_byteAt k_sel_M_byteAt k_ini_M) k_co_M_byteAt) rfl rfl rfl (by decide +kernel) ⟨Nat.le_of_ble_eq_true rfl, Nat.le_of_ble_eq_true rfl⟩) ⟨PR.bl, va_recv hK.1 (P_app.mpr ⟨(P_app.mp hP).1, (P_app.mpr ⟨(P_app.mp (P_app.mp hP).2).1, (P_app.mpr ⟨(P_app.mp (P_app.mp (P_app.mp hP).2).2).1, (P_app.mp (P_app.mp (P_app.mp (P_app.mp hP).2).2).2).1⟩)⟩)⟩) (ci := 3) (q0 := 0) rfl rfl, PR.pre (P_app.mpr ⟨(P_app.mp hP).1, (P_app.mpr ⟨(P_app.mp (P_app.mp hP).2).1, (P_app.mpr ⟨(P_app.mp (P_app.mp (P_app.mp hP).2).2).1, (P_app.mp (P_app.mp (P_app.mp (P_app.mp hP).2).2).2).1⟩)⟩)⟩) hK⟩ rfl rfl hl.1 rfl (lv_room (Nat.le_of_ble_eq_true rfl)) d_L_byteAt_5 ⟨Nat.le_of_ble_eq_true rfl, Nat.le_of_ble_eq_true rfl⟩) ?_
  refine lv_i2l (v := (rdF b bc i).toInt64) hx hb d_L_byteAt_8 rfl ?_
  refine va_last hx hb hK.1 hP hD hS 9 1 rfl rfl (by unfold vp_in; decide) d_L_byteAt_9 (fun H locs hP hD hS => ?_)
  have hP : va_P D vwCl ((wX x0 lim a0 k0 u0 v0 t1 gen wrg rns als) ++ ((wH a0 d0 sz mo) ++ ((wR cO d0 cap rf) ++ ((wB cI h0 q1 q2 q3 q4 q5 o f ee t b ic bc sa gn) ++ ((wO cL o0 (vp_updL og (0 : Int32).toNatClampNeg ((rdF b bc i).toInt64))) ++ fr))))) H := hP
  have hD : va_D A ((wX x0 lim a0 k0 u0 v0 t1 gen wrg rns als) ++ ((wH a0 d0 sz mo) ++ ((wR cO d0 cap rf) ++ ((wB cI h0 q1 q2 q3 q4 q5 o f ee t b ic bc sa gn) ++ ((wO cL o0 (vp_updL og (0 : Int32).toNatClampNeg ((rdF b bc i).toInt64))) ++ fr))))) := hD
  refine lv_goto (tgt := 25) hx hb d_L_byteAt_10 (by decide) ?_
  refine lv_iconst (v := 0) hx hb d_L_byteAt_25 (by decide) ?_
  refine W.widen (k := 1) (n := 6) (by omega) (by omega) ?_
  rw [hQ]; exact retMi (w1 := fun u : FL => ((wX x0 lim a0 k0 u0 v0 t1 gen wrg rns als) ++ ((wH a0 d0 sz mo) ++ ((wR cO d0 cap rf) ++ ((wB cI h0 q1 q2 q3 q4 q5 o f ee t b ic bc sa gn) ++ ((wO cL o0 u) ++ fr)))))) (vp_updL og (0 : Int32).toNatClampNeg ((rdF b bc i).toInt64)) hx hb hr hlocks hP hD hS ⟨rfl, (og0 (f := og))⟩ d_L_byteAt_26

set_option maxHeartbeats 1000000 in
set_option maxRecDepth 100000 in
theorem c_L_byteAtX (l : Launch) (D : va_G) (cI cL cO : ClassId) (N t0 mi : Nat) (hl0 : l.stackTraces = false) (x0 : Nat) (lim : Int32) (a0 : Nat) (k0 : Nat) (u0 : Nat) (v0 : Nat) (t1 : Nat) (gen : Int32) (wrg : Int32) (rns : Int32) (als : Int32) (d0 : Nat) (sz : Int32) (mo : Int32) (o0 : Nat) (og : FL) (fr : va_W) (bi : Int32) (i : Int32) (hbad : bi < 0 ∨ ¬ bi < sz) : CHi l y_L_byteAt w_L_byteAt rm_L_byteAt D cI cL cO N t0 mi [.ref x0, .int bi, .int i, .ref o0] ((wX x0 lim a0 k0 u0 v0 t1 gen wrg rns als) ++ ((wH a0 d0 sz mo) ++ ((wO cL o0 og) ++ fr))) (fun (r : Int32) (u : Unit) => r = 1) (fun u : Unit => ((wX x0 lim a0 k0 u0 v0 t1 gen wrg rns als) ++ ((wH a0 d0 sz mo) ++ ((wO cL o0 og) ++ fr)))) 1 6 := by
  refine ofH (cc := b_L_byteAt) (maxL := 5) (ret := (some .int)) (hh := [(0, 10, 13, 19), (0, 10, 17, 31), (0, 10, 21, 21)]) (by decide) rfl (Nat.le_of_ble_eq_true rfl) ?_
  intro p e s m below meth c A ls H Q hQ hx hb hr hlocks htab hts hown hml hP hK hD hS hA hl hE hN hAN hNC
  have hl : lv_has ls 5 [(0, .ref x0), (1, .int bi), (2, .int i), (3, .ref o0)] := hl
  have hown : s.vm.findClass R_L = some m.cls := hown
  have ht : ∀ w ∈ BIG, w.before _ s = true := fun w h => hts w (List.mem_cons_of_mem _ h)
  refine lv_aload_n hx hb d_L_byteAt_0 rfl (lv_at hl 3 rfl) ?_
  refine lv_iconst (v := 0) hx hb d_L_byteAt_1 (by decide) ?_
  refine lv_aload_n hx hb d_L_byteAt_2 rfl (lv_at hl 0 rfl) ?_
  refine lv_iload_n hx hb d_L_byteAt_3 rfl (lv_at hl 1 rfl) ?_
  refine lv_iload_n hx hb d_L_byteAt_4 rfl (lv_at hl 2 rfl) ?_
  have hAi := A_in hD hS hA
  refine goT (N := N) (runT (As := [.int bi, .int i]) (rest := [.int 0, .ref o0]) ⟨hx, hb, hml, hown, hts⟩ (c_M_byteAtX l D cI cL cO N t0 mi hl0 x0 lim a0 k0 u0 v0 t1 gen wrg rns als d0 sz mo ((wO cL o0 og) ++ fr) bi i hbad H.size) (cwV 2 hts (gBIG (m4 k_ml_L_27 k_im_M_byteAt k_sel_M_byteAt k_ini_M) k_co_M_byteAt) rfl rfl rfl (by decide +kernel) ⟨Nat.le_of_ble_eq_true rfl, Nat.le_of_ble_eq_true rfl⟩) ⟨PX.bl, va_recv hK.1 hP (ci := 3) (q0 := 0) rfl rfl, PX.pre hP hD hK hE hS hAN hN⟩ rfl rfl hl.1 rfl (lv_room (Nat.le_of_ble_eq_true rfl)) d_L_byteAt_5 ⟨Nat.le_of_ble_eq_true rfl, Nat.le_of_ble_eq_true rfl⟩) hS hAi hown ht hNC hE.1 [] (0, 10, 13, 19) [(0, 10, 17, 31), (0, 10, 21, 21)] htab (fun y hy => absurd hy List.not_mem_nil) ⟨⟨by decide, by decide⟩, by decide, klc_19⟩ kcc_X (fun ax H locs hq hS => ?_)
  obtain ⟨u, hP, hD⟩ := hq
  have hD := hD.weaken (fun _ q _ h => hAi q.1 h)
  have hP : va_P D vwCl ((wX x0 lim a0 k0 u0 v0 t1 gen wrg rns als) ++ ((wH a0 d0 sz mo) ++ ((wO cL o0 og) ++ fr))) H := hP
  have hD : va_D A ((wX x0 lim a0 k0 u0 v0 t1 gen wrg rns als) ++ ((wH a0 d0 sz mo) ++ ((wO cL o0 og) ++ fr))) := hD
  refine lv_astore (lv' := [(4, .ref ax), (0, .ref x0), (1, .int bi), (2, .int i), (3, .ref o0)]) hx hb d_L_byteAt_13 hl (by decide) rfl (fun ls hl => ?_)
  refine lv_iconst (v := 1) hx hb d_L_byteAt_15 (by decide) ?_
  refine W.widen (k := 1) (n := 6) (by omega) (by omega) ?_
  rw [hQ]; exact retMi (w1 := fun u : Unit => ((wX x0 lim a0 k0 u0 v0 t1 gen wrg rns als) ++ ((wH a0 d0 sz mo) ++ ((wO cL o0 og) ++ fr)))) () hx hb hr hlocks hP hD hS rfl d_L_byteAt_16

set_option maxHeartbeats 1000000 in
set_option maxRecDepth 100000 in
theorem c_L_byteAtS (l : Launch) (D : va_G) (cI cL cO : ClassId) (N t0 mi : Nat) (hl0 : l.stackTraces = false) (x0 : Nat) (lim : Int32) (a0 : Nat) (k0 : Nat) (u0 : Nat) (v0 : Nat) (t1 : Nat) (gen : Int32) (wrg : Int32) (rns : Int32) (als : Int32) (d0 : Nat) (sz : Int32) (mo : Int32) (cap : Nat) (rf : Nat → Option Nat) (h0 : Nat) (q1 : Nat) (q2 : Nat) (q3 : Nat) (q4 : Nat) (q5 : Nat) (o : Fn) (f : Fn) (ee : Fn) (t : Fn) (b : Fn) (ic : Int32) (bc : Int32) (sa : Int32) (gn : Int32) (o0 : Nat) (og : FL) (fr : va_W) (bi : Int32) (i : Int32) (hi0 : ¬ bi < 0) (hi1 : bi < sz) (hi2 : vp_in bi cap) (hi3 : rf bi.toNatClampNeg = some h0) (v1 : sa = 0) : CHi l y_L_byteAt w_L_byteAt rm_L_byteAt D cI cL cO N t0 mi [.ref x0, .int bi, .int i, .ref o0] ((wX x0 lim a0 k0 u0 v0 t1 gen wrg rns als) ++ ((wH a0 d0 sz mo) ++ ((wR cO d0 cap rf) ++ ((wB cI h0 q1 q2 q3 q4 q5 o f ee t b ic bc sa gn) ++ ((wO cL o0 og) ++ fr))))) (fun (r : Int32) (u : Unit) => r = 2) (fun u : Unit => ((wX x0 lim a0 k0 u0 v0 t1 gen wrg rns als) ++ ((wH a0 d0 sz mo) ++ ((wR cO d0 cap rf) ++ ((wB cI h0 q1 q2 q3 q4 q5 o f ee t b ic bc sa gn) ++ ((wO cL o0 og) ++ fr)))))) 1 6 := by
  refine ofH (cc := b_L_byteAt) (maxL := 5) (ret := (some .int)) (hh := [(0, 10, 13, 19), (0, 10, 17, 31), (0, 10, 21, 21)]) (by decide) rfl (Nat.le_of_ble_eq_true rfl) ?_
  intro p e s m below meth c A ls H Q hQ hx hb hr hlocks htab hts hown hml hP hK hD hS hA hl hE hN hAN hNC
  have hl : lv_has ls 5 [(0, .ref x0), (1, .int bi), (2, .int i), (3, .ref o0)] := hl
  have hown : s.vm.findClass R_L = some m.cls := hown
  have ht : ∀ w ∈ BIG, w.before _ s = true := fun w h => hts w (List.mem_cons_of_mem _ h)
  refine lv_aload_n hx hb d_L_byteAt_0 rfl (lv_at hl 3 rfl) ?_
  refine lv_iconst (v := 0) hx hb d_L_byteAt_1 (by decide) ?_
  refine lv_aload_n hx hb d_L_byteAt_2 rfl (lv_at hl 0 rfl) ?_
  refine lv_iload_n hx hb d_L_byteAt_3 rfl (lv_at hl 1 rfl) ?_
  refine lv_iload_n hx hb d_L_byteAt_4 rfl (lv_at hl 2 rfl) ?_
  have hAi := A_in hD hS hA
  refine goT (N := N) (runT (As := [.int bi, .int i]) (rest := [.int 0, .ref o0]) ⟨hx, hb, hml, hown, hts⟩ (c_M_byteAtS l D cI cL cO N t0 mi hl0 x0 lim a0 k0 u0 v0 t1 gen wrg rns als d0 sz mo cap rf h0 q1 q2 q3 q4 q5 o f ee t b ic bc sa gn ((wO cL o0 og) ++ fr) bi i hi0 hi1 hi2 hi3 v1 H.size) (cwV 2 hts (gBIG (m4 k_ml_L_27 k_im_M_byteAt k_sel_M_byteAt k_ini_M) k_co_M_byteAt) rfl rfl rfl (by decide +kernel) ⟨Nat.le_of_ble_eq_true rfl, Nat.le_of_ble_eq_true rfl⟩) ⟨PX.bl, va_recv hK.1 hP (ci := 3) (q0 := 0) rfl rfl, PX.pre hP hD hK hE hS hAN hN⟩ rfl rfl hl.1 rfl (lv_room (Nat.le_of_ble_eq_true rfl)) d_L_byteAt_5 ⟨Nat.le_of_ble_eq_true rfl, Nat.le_of_ble_eq_true rfl⟩) hS hAi hown ht hNC hE.1 [(0, 10, 13, 19)] (0, 10, 17, 31) [(0, 10, 21, 21)] htab (by intro y hy; rcases List.mem_cons.mp hy with rfl | hy; exact ⟨⟨by decide, by decide⟩, by decide, _, klc_19, by decide +kernel⟩; exact absurd hy List.not_mem_nil) ⟨⟨by decide, by decide⟩, by decide, klc_31⟩ kcc_S (fun ax H locs hq hS => ?_)
  obtain ⟨u, hP, hD⟩ := hq
  have hD := hD.weaken (fun _ q _ h => hAi q.1 h)
  have hP : va_P D vwCl ((wX x0 lim a0 k0 u0 v0 t1 gen wrg rns als) ++ ((wH a0 d0 sz mo) ++ ((wR cO d0 cap rf) ++ ((wB cI h0 q1 q2 q3 q4 q5 o f ee t b ic bc sa gn) ++ ((wO cL o0 og) ++ fr))))) H := hP
  have hD : va_D A ((wX x0 lim a0 k0 u0 v0 t1 gen wrg rns als) ++ ((wH a0 d0 sz mo) ++ ((wR cO d0 cap rf) ++ ((wB cI h0 q1 q2 q3 q4 q5 o f ee t b ic bc sa gn) ++ ((wO cL o0 og) ++ fr))))) := hD
  refine lv_astore (lv' := [(4, .ref ax), (0, .ref x0), (1, .int bi), (2, .int i), (3, .ref o0)]) hx hb d_L_byteAt_17 hl (by decide) rfl (fun ls hl => ?_)
  refine lv_iconst (v := 2) hx hb d_L_byteAt_19 (by decide) ?_
  refine W.widen (k := 1) (n := 6) (by omega) (by omega) ?_
  rw [hQ]; exact retMi (w1 := fun u : Unit => ((wX x0 lim a0 k0 u0 v0 t1 gen wrg rns als) ++ ((wH a0 d0 sz mo) ++ ((wR cO d0 cap rf) ++ ((wB cI h0 q1 q2 q3 q4 q5 o f ee t b ic bc sa gn) ++ ((wO cL o0 og) ++ fr)))))) () hx hb hr hlocks hP hD hS rfl d_L_byteAt_20

set_option maxHeartbeats 1000000 in
set_option maxRecDepth 100000 in
theorem c_L_byteAtA (l : Launch) (D : va_G) (cI cL cO : ClassId) (N t0 mi : Nat) (hl0 : l.stackTraces = false) (x0 : Nat) (lim : Int32) (a0 : Nat) (k0 : Nat) (u0 : Nat) (v0 : Nat) (t1 : Nat) (gen : Int32) (wrg : Int32) (rns : Int32) (als : Int32) (d0 : Nat) (sz : Int32) (mo : Int32) (cap : Nat) (rf : Nat → Option Nat) (h0 : Nat) (q1 : Nat) (q2 : Nat) (q3 : Nat) (q4 : Nat) (q5 : Nat) (o : Fn) (f : Fn) (ee : Fn) (t : Fn) (b : Fn) (ic : Int32) (bc : Int32) (sa : Int32) (gn : Int32) (o0 : Nat) (og : FL) (fr : va_W) (bi : Int32) (i : Int32) (hi0 : ¬ bi < 0) (hi1 : bi < sz) (hi2 : vp_in bi cap) (hi3 : rf bi.toNatClampNeg = some h0) (v1 : ¬ sa = 0) (v2 : hasF bc i = 0) : CHi l y_L_byteAt w_L_byteAt rm_L_byteAt D cI cL cO N t0 mi [.ref x0, .int bi, .int i, .ref o0] ((wX x0 lim a0 k0 u0 v0 t1 gen wrg rns als) ++ ((wH a0 d0 sz mo) ++ ((wR cO d0 cap rf) ++ ((wB cI h0 q1 q2 q3 q4 q5 o f ee t b ic bc sa gn) ++ ((wO cL o0 og) ++ fr))))) (fun (r : Int32) (u : Unit) => r = 3) (fun u : Unit => ((wX x0 lim a0 k0 u0 v0 t1 gen wrg rns als) ++ ((wH a0 d0 sz mo) ++ ((wR cO d0 cap rf) ++ ((wB cI h0 q1 q2 q3 q4 q5 o f ee t b ic bc sa gn) ++ ((wO cL o0 og) ++ fr)))))) 1 6 := by
  refine ofH (cc := b_L_byteAt) (maxL := 5) (ret := (some .int)) (hh := [(0, 10, 13, 19), (0, 10, 17, 31), (0, 10, 21, 21)]) (by decide) rfl (Nat.le_of_ble_eq_true rfl) ?_
  intro p e s m below meth c A ls H Q hQ hx hb hr hlocks htab hts hown hml hP hK hD hS hA hl hE hN hAN hNC
  have hl : lv_has ls 5 [(0, .ref x0), (1, .int bi), (2, .int i), (3, .ref o0)] := hl
  have hown : s.vm.findClass R_L = some m.cls := hown
  have ht : ∀ w ∈ BIG, w.before _ s = true := fun w h => hts w (List.mem_cons_of_mem _ h)
  refine lv_aload_n hx hb d_L_byteAt_0 rfl (lv_at hl 3 rfl) ?_
  refine lv_iconst (v := 0) hx hb d_L_byteAt_1 (by decide) ?_
  refine lv_aload_n hx hb d_L_byteAt_2 rfl (lv_at hl 0 rfl) ?_
  refine lv_iload_n hx hb d_L_byteAt_3 rfl (lv_at hl 1 rfl) ?_
  refine lv_iload_n hx hb d_L_byteAt_4 rfl (lv_at hl 2 rfl) ?_
  have hAi := A_in hD hS hA
  refine goT (N := N) (runT (As := [.int bi, .int i]) (rest := [.int 0, .ref o0]) ⟨hx, hb, hml, hown, hts⟩ (c_M_byteAtA l D cI cL cO N t0 mi hl0 x0 lim a0 k0 u0 v0 t1 gen wrg rns als d0 sz mo cap rf h0 q1 q2 q3 q4 q5 o f ee t b ic bc sa gn ((wO cL o0 og) ++ fr) bi i hi0 hi1 hi2 hi3 v1 v2 H.size) (cwV 2 hts (gBIG (m4 k_ml_L_27 k_im_M_byteAt k_sel_M_byteAt k_ini_M) k_co_M_byteAt) rfl rfl rfl (by decide +kernel) ⟨Nat.le_of_ble_eq_true rfl, Nat.le_of_ble_eq_true rfl⟩) ⟨PX.bl, va_recv hK.1 hP (ci := 3) (q0 := 0) rfl rfl, PX.pre hP hD hK hE hS hAN hN⟩ rfl rfl hl.1 rfl (lv_room (Nat.le_of_ble_eq_true rfl)) d_L_byteAt_5 ⟨Nat.le_of_ble_eq_true rfl, Nat.le_of_ble_eq_true rfl⟩) hS hAi hown ht hNC hE.1 [(0, 10, 13, 19), (0, 10, 17, 31)] (0, 10, 21, 21) [] htab (by intro y hy; rcases List.mem_cons.mp hy with rfl | hy; exact ⟨⟨by decide, by decide⟩, by decide, _, klc_19, by decide +kernel⟩; rcases List.mem_cons.mp hy with rfl | hy; exact ⟨⟨by decide, by decide⟩, by decide, _, klc_31, by decide +kernel⟩; exact absurd hy List.not_mem_nil) ⟨⟨by decide, by decide⟩, by decide, klc_21⟩ kcc_A (fun ax H locs hq hS => ?_)
  obtain ⟨u, hP, hD⟩ := hq
  have hD := hD.weaken (fun _ q _ h => hAi q.1 h)
  have hP : va_P D vwCl ((wX x0 lim a0 k0 u0 v0 t1 gen wrg rns als) ++ ((wH a0 d0 sz mo) ++ ((wR cO d0 cap rf) ++ ((wB cI h0 q1 q2 q3 q4 q5 o f ee t b ic bc sa gn) ++ ((wO cL o0 og) ++ fr))))) H := hP
  have hD : va_D A ((wX x0 lim a0 k0 u0 v0 t1 gen wrg rns als) ++ ((wH a0 d0 sz mo) ++ ((wR cO d0 cap rf) ++ ((wB cI h0 q1 q2 q3 q4 q5 o f ee t b ic bc sa gn) ++ ((wO cL o0 og) ++ fr))))) := hD
  refine lv_astore (lv' := [(4, .ref ax), (0, .ref x0), (1, .int bi), (2, .int i), (3, .ref o0)]) hx hb d_L_byteAt_21 hl (by decide) rfl (fun ls hl => ?_)
  refine lv_iconst (v := 3) hx hb d_L_byteAt_23 (by decide) ?_
  refine W.widen (k := 1) (n := 6) (by omega) (by omega) ?_
  rw [hQ]; exact retMi (w1 := fun u : Unit => ((wX x0 lim a0 k0 u0 v0 t1 gen wrg rns als) ++ ((wH a0 d0 sz mo) ++ ((wR cO d0 cap rf) ++ ((wB cI h0 q1 q2 q3 q4 q5 o f ee t b ic bc sa gn) ++ ((wO cL o0 og) ++ fr)))))) () hx hb hr hlocks hP hD hS rfl d_L_byteAt_24

abbrev w_L_alter : List Cond := .codeWith y_L_alter b_L_alter 6 (some .int) [(0, 12, 15, 19), (0, 12, 19, 31), (0, 12, 23, 21)] :: BIG
abbrev rm_L_alter : Room := { frames := 9, cells := 1, slots := 6, locals := 330 }
set_option maxHeartbeats 1000000 in
set_option maxRecDepth 100000 in
theorem c_L_alter (l : Launch) (D : va_G) (cI cL cO : ClassId) (N t0 mi : Nat) (x0 : Nat) (lim : Int32) (a0 : Nat) (k0 : Nat) (u0 : Nat) (v0 : Nat) (t1 : Nat) (gen : Int32) (wrg : Int32) (rns : Int32) (als : Int32) (d0 : Nat) (sz : Int32) (mo : Int32) (cap : Nat) (rf : Nat → Option Nat) (h0 : Nat) (q1 : Nat) (q2 : Nat) (q3 : Nat) (q4 : Nat) (q5 : Nat) (o : Fn) (f : Fn) (ee : Fn) (t : Fn) (b : Fn) (ic : Int32) (bc : Int32) (sa : Int32) (gn : Int32) (o0 : Nat) (og : FL) (fr : va_W) (bi : Int32) (i : Int32) (v : Int32) (hi0 : ¬ bi < 0) (hi1 : bi < sz) (hi2 : vp_in bi cap) (hi3 : rf bi.toNatClampNeg = some h0) (v1 : sa = 1) (v2 : ¬ hasF bc i = 0) (v3 : ¬ v < 0) (v4 : v ≤ 255) : CHi l y_L_alter w_L_alter rm_L_alter D cI cL cO N t0 mi [.ref x0, .int bi, .int i, .int v, .ref o0] ((wX x0 lim a0 k0 u0 v0 t1 gen wrg rns als) ++ ((wH a0 d0 sz mo) ++ ((wR cO d0 cap rf) ++ ((wB cI h0 q1 q2 q3 q4 q5 o f ee t b ic bc sa gn) ++ ((wO cL o0 og) ++ fr))))) (fun (r : Int32) (u : (Fn) × FL) => r = 0 ∧ ∃ rr : Int32, (rr = rdF b bc i ∧ u.1 = ovF b bc i v) ∧ u.2 0 = (rr).toInt64) (fun u : (Fn) × FL => ((wX x0 lim a0 k0 u0 v0 t1 gen wrg rns als) ++ ((wH a0 d0 sz mo) ++ ((wR cO d0 cap rf) ++ ((wB cI h0 q1 q2 q3 q4 q5 o f ee t u.1 ic bc sa gn) ++ ((wO cL o0 u.2) ++ fr)))))) 1 6 := by
  refine ofH (cc := b_L_alter) (maxL := 6) (ret := (some .int)) (hh := [(0, 12, 15, 19), (0, 12, 19, 31), (0, 12, 23, 21)]) (by decide) rfl (Nat.le_of_ble_eq_true rfl) ?_
  intro p e s m below meth c A ls H Q hQ hx hb hr hlocks htab hts hown hml hP hK hD hS hA hl hE hN hAN hNC
  have hl : lv_has ls 6 [(0, .ref x0), (1, .int bi), (2, .int i), (3, .int v), (4, .ref o0)] := hl
  have hown : s.vm.findClass R_L = some m.cls := hown
  have ht : ∀ w ∈ BIG, w.before _ s = true := fun w h => hts w (List.mem_cons_of_mem _ h)
  refine lv_aload hx hb d_L_alter_0 (lv_at hl 4 rfl) ?_
  refine lv_iconst (v := 0) hx hb d_L_alter_2 (by decide) ?_
  refine lv_aload_n hx hb d_L_alter_3 rfl (lv_at hl 0 rfl) ?_
  refine lv_iload_n hx hb d_L_alter_4 rfl (lv_at hl 1 rfl) ?_
  refine lv_iload_n hx hb d_L_alter_5 rfl (lv_at hl 2 rfl) ?_
  refine lv_iload_n hx hb d_L_alter_6 rfl (lv_at hl 3 rfl) ?_
  refine goMi (va_runV (As := [.int bi, .int i, .int v]) (rest := [.int 0, .ref o0]) ⟨hx, hb, hml, hown, hts⟩ (c_M_alter l D cI cL cO x0 lim a0 k0 u0 v0 t1 gen wrg rns als d0 sz mo cap rf h0 q1 q2 q3 q4 q5 o f ee t b ic bc sa gn ((wO cL o0 og) ++ fr) bi i v hi0 hi1 hi2 hi3 v1 v2 v3 v4 H.size) (cwV 3 hts (gBIG (m4 k_ml_L_33 k_im_M_alter k_sel_M_alter k_ini_M) k_co_M_alter) rfl rfl rfl (by decide +kernel) ⟨Nat.le_of_ble_eq_true rfl, Nat.le_of_ble_eq_true rfl⟩) ⟨PM.bl, va_recv hK.1 hP (ci := 3) (q0 := 0) rfl rfl, PM.pre hP hD hK⟩ rfl rfl hl.1 rfl (lv_room (Nat.le_of_ble_eq_true rfl)) d_L_alter_7 ⟨Nat.le_of_ble_eq_true rfl, Nat.le_of_ble_eq_true rfl⟩) hD hS hA (fun r_7 u H locs hw hP hD hS => ?_)
  obtain ⟨b_7, rfl⟩ : ∃ z, z = u := ⟨_, rfl⟩
  have e_7 : r_7 = rdF b bc i ∧ b_7 = ovF b bc i v := hw
  have hP : va_P D vwCl ((wX x0 lim a0 k0 u0 v0 t1 gen wrg rns als) ++ ((wH a0 d0 sz mo) ++ ((wR cO d0 cap rf) ++ ((wB cI h0 q1 q2 q3 q4 q5 o f ee t b_7 ic bc sa gn) ++ ((wO cL o0 og) ++ fr))))) H := hP
  have hD : va_D A ((wX x0 lim a0 k0 u0 v0 t1 gen wrg rns als) ++ ((wH a0 d0 sz mo) ++ ((wR cO d0 cap rf) ++ ((wB cI h0 q1 q2 q3 q4 q5 o f ee t b_7 ic bc sa gn) ++ ((wO cL o0 og) ++ fr))))) := hD
  refine lv_i2l (v := r_7.toInt64) hx hb d_L_alter_10 rfl ?_
  refine va_last hx hb hK.1 hP hD hS 9 1 rfl rfl (by unfold vp_in; decide) d_L_alter_11 (fun H locs hP hD hS => ?_)
  have hP : va_P D vwCl ((wX x0 lim a0 k0 u0 v0 t1 gen wrg rns als) ++ ((wH a0 d0 sz mo) ++ ((wR cO d0 cap rf) ++ ((wB cI h0 q1 q2 q3 q4 q5 o f ee t b_7 ic bc sa gn) ++ ((wO cL o0 (vp_updL og (0 : Int32).toNatClampNeg r_7.toInt64)) ++ fr))))) H := hP
  have hD : va_D A ((wX x0 lim a0 k0 u0 v0 t1 gen wrg rns als) ++ ((wH a0 d0 sz mo) ++ ((wR cO d0 cap rf) ++ ((wB cI h0 q1 q2 q3 q4 q5 o f ee t b_7 ic bc sa gn) ++ ((wO cL o0 (vp_updL og (0 : Int32).toNatClampNeg r_7.toInt64)) ++ fr))))) := hD
  refine lv_goto (tgt := 27) hx hb d_L_alter_12 (by decide) ?_
  refine lv_iconst (v := 0) hx hb d_L_alter_27 (by decide) ?_
  refine W.widen (k := 1) (n := 6) (by omega) (by omega) ?_
  rw [hQ]; exact retMi (w1 := fun u : (Fn) × FL => ((wX x0 lim a0 k0 u0 v0 t1 gen wrg rns als) ++ ((wH a0 d0 sz mo) ++ ((wR cO d0 cap rf) ++ ((wB cI h0 q1 q2 q3 q4 q5 o f ee t u.1 ic bc sa gn) ++ ((wO cL o0 u.2) ++ fr)))))) ((b_7), (vp_updL og (0 : Int32).toNatClampNeg r_7.toInt64)) hx hb hr hlocks hP hD hS ⟨rfl, _, e_7, (og0 (f := og))⟩ d_L_alter_28

set_option maxHeartbeats 1000000 in
set_option maxRecDepth 100000 in
theorem c_L_alterX (l : Launch) (D : va_G) (cI cL cO : ClassId) (N t0 mi : Nat) (hl0 : l.stackTraces = false) (x0 : Nat) (lim : Int32) (a0 : Nat) (k0 : Nat) (u0 : Nat) (v0 : Nat) (t1 : Nat) (gen : Int32) (wrg : Int32) (rns : Int32) (als : Int32) (d0 : Nat) (sz : Int32) (mo : Int32) (o0 : Nat) (og : FL) (fr : va_W) (bi : Int32) (i : Int32) (v : Int32) (hbad : bi < 0 ∨ ¬ bi < sz) : CHi l y_L_alter w_L_alter rm_L_alter D cI cL cO N t0 mi [.ref x0, .int bi, .int i, .int v, .ref o0] ((wX x0 lim a0 k0 u0 v0 t1 gen wrg rns als) ++ ((wH a0 d0 sz mo) ++ ((wO cL o0 og) ++ fr))) (fun (r : Int32) (u : Unit) => r = 1) (fun u : Unit => ((wX x0 lim a0 k0 u0 v0 t1 gen wrg rns als) ++ ((wH a0 d0 sz mo) ++ ((wO cL o0 og) ++ fr)))) 1 6 := by
  refine ofH (cc := b_L_alter) (maxL := 6) (ret := (some .int)) (hh := [(0, 12, 15, 19), (0, 12, 19, 31), (0, 12, 23, 21)]) (by decide) rfl (Nat.le_of_ble_eq_true rfl) ?_
  intro p e s m below meth c A ls H Q hQ hx hb hr hlocks htab hts hown hml hP hK hD hS hA hl hE hN hAN hNC
  have hl : lv_has ls 6 [(0, .ref x0), (1, .int bi), (2, .int i), (3, .int v), (4, .ref o0)] := hl
  have hown : s.vm.findClass R_L = some m.cls := hown
  have ht : ∀ w ∈ BIG, w.before _ s = true := fun w h => hts w (List.mem_cons_of_mem _ h)
  refine lv_aload hx hb d_L_alter_0 (lv_at hl 4 rfl) ?_
  refine lv_iconst (v := 0) hx hb d_L_alter_2 (by decide) ?_
  refine lv_aload_n hx hb d_L_alter_3 rfl (lv_at hl 0 rfl) ?_
  refine lv_iload_n hx hb d_L_alter_4 rfl (lv_at hl 1 rfl) ?_
  refine lv_iload_n hx hb d_L_alter_5 rfl (lv_at hl 2 rfl) ?_
  refine lv_iload_n hx hb d_L_alter_6 rfl (lv_at hl 3 rfl) ?_
  have hAi := A_in hD hS hA
  refine goT (N := N) (runT (As := [.int bi, .int i, .int v]) (rest := [.int 0, .ref o0]) ⟨hx, hb, hml, hown, hts⟩ (c_M_alterX l D cI cL cO N t0 mi hl0 x0 lim a0 k0 u0 v0 t1 gen wrg rns als d0 sz mo ((wO cL o0 og) ++ fr) bi i v hbad H.size) (cwV 3 hts (gBIG (m4 k_ml_L_33 k_im_M_alter k_sel_M_alter k_ini_M) k_co_M_alter) rfl rfl rfl (by decide +kernel) ⟨Nat.le_of_ble_eq_true rfl, Nat.le_of_ble_eq_true rfl⟩) ⟨PX.bl, va_recv hK.1 hP (ci := 3) (q0 := 0) rfl rfl, PX.pre hP hD hK hE hS hAN hN⟩ rfl rfl hl.1 rfl (lv_room (Nat.le_of_ble_eq_true rfl)) d_L_alter_7 ⟨Nat.le_of_ble_eq_true rfl, Nat.le_of_ble_eq_true rfl⟩) hS hAi hown ht hNC hE.1 [] (0, 12, 15, 19) [(0, 12, 19, 31), (0, 12, 23, 21)] htab (fun y hy => absurd hy List.not_mem_nil) ⟨⟨by decide, by decide⟩, by decide, klc_19⟩ kcc_X (fun ax H locs hq hS => ?_)
  obtain ⟨u, hP, hD⟩ := hq
  have hD := hD.weaken (fun _ q _ h => hAi q.1 h)
  have hP : va_P D vwCl ((wX x0 lim a0 k0 u0 v0 t1 gen wrg rns als) ++ ((wH a0 d0 sz mo) ++ ((wO cL o0 og) ++ fr))) H := hP
  have hD : va_D A ((wX x0 lim a0 k0 u0 v0 t1 gen wrg rns als) ++ ((wH a0 d0 sz mo) ++ ((wO cL o0 og) ++ fr))) := hD
  refine lv_astore (lv' := [(5, .ref ax), (0, .ref x0), (1, .int bi), (2, .int i), (3, .int v), (4, .ref o0)]) hx hb d_L_alter_15 hl (by decide) rfl (fun ls hl => ?_)
  refine lv_iconst (v := 1) hx hb d_L_alter_17 (by decide) ?_
  refine W.widen (k := 1) (n := 6) (by omega) (by omega) ?_
  rw [hQ]; exact retMi (w1 := fun u : Unit => ((wX x0 lim a0 k0 u0 v0 t1 gen wrg rns als) ++ ((wH a0 d0 sz mo) ++ ((wO cL o0 og) ++ fr)))) () hx hb hr hlocks hP hD hS rfl d_L_alter_18

set_option maxHeartbeats 1000000 in
set_option maxRecDepth 100000 in
theorem c_L_alterS (l : Launch) (D : va_G) (cI cL cO : ClassId) (N t0 mi : Nat) (hl0 : l.stackTraces = false) (x0 : Nat) (lim : Int32) (a0 : Nat) (k0 : Nat) (u0 : Nat) (v0 : Nat) (t1 : Nat) (gen : Int32) (wrg : Int32) (rns : Int32) (als : Int32) (d0 : Nat) (sz : Int32) (mo : Int32) (cap : Nat) (rf : Nat → Option Nat) (h0 : Nat) (q1 : Nat) (q2 : Nat) (q3 : Nat) (q4 : Nat) (q5 : Nat) (o : Fn) (f : Fn) (ee : Fn) (t : Fn) (b : Fn) (ic : Int32) (bc : Int32) (sa : Int32) (gn : Int32) (o0 : Nat) (og : FL) (fr : va_W) (bi : Int32) (i : Int32) (v : Int32) (hi0 : ¬ bi < 0) (hi1 : bi < sz) (hi2 : vp_in bi cap) (hi3 : rf bi.toNatClampNeg = some h0) (v1 : ¬ sa = 1) : CHi l y_L_alter w_L_alter rm_L_alter D cI cL cO N t0 mi [.ref x0, .int bi, .int i, .int v, .ref o0] ((wX x0 lim a0 k0 u0 v0 t1 gen wrg rns als) ++ ((wH a0 d0 sz mo) ++ ((wR cO d0 cap rf) ++ ((wB cI h0 q1 q2 q3 q4 q5 o f ee t b ic bc sa gn) ++ ((wO cL o0 og) ++ fr))))) (fun (r : Int32) (u : Unit) => r = 2) (fun u : Unit => ((wX x0 lim a0 k0 u0 v0 t1 gen wrg rns als) ++ ((wH a0 d0 sz mo) ++ ((wR cO d0 cap rf) ++ ((wB cI h0 q1 q2 q3 q4 q5 o f ee t b ic bc sa gn) ++ ((wO cL o0 og) ++ fr)))))) 1 6 := by
  refine ofH (cc := b_L_alter) (maxL := 6) (ret := (some .int)) (hh := [(0, 12, 15, 19), (0, 12, 19, 31), (0, 12, 23, 21)]) (by decide) rfl (Nat.le_of_ble_eq_true rfl) ?_
  intro p e s m below meth c A ls H Q hQ hx hb hr hlocks htab hts hown hml hP hK hD hS hA hl hE hN hAN hNC
  have hl : lv_has ls 6 [(0, .ref x0), (1, .int bi), (2, .int i), (3, .int v), (4, .ref o0)] := hl
  have hown : s.vm.findClass R_L = some m.cls := hown
  have ht : ∀ w ∈ BIG, w.before _ s = true := fun w h => hts w (List.mem_cons_of_mem _ h)
  refine lv_aload hx hb d_L_alter_0 (lv_at hl 4 rfl) ?_
  refine lv_iconst (v := 0) hx hb d_L_alter_2 (by decide) ?_
  refine lv_aload_n hx hb d_L_alter_3 rfl (lv_at hl 0 rfl) ?_
  refine lv_iload_n hx hb d_L_alter_4 rfl (lv_at hl 1 rfl) ?_
  refine lv_iload_n hx hb d_L_alter_5 rfl (lv_at hl 2 rfl) ?_
  refine lv_iload_n hx hb d_L_alter_6 rfl (lv_at hl 3 rfl) ?_
  have hAi := A_in hD hS hA
  refine goT (N := N) (runT (As := [.int bi, .int i, .int v]) (rest := [.int 0, .ref o0]) ⟨hx, hb, hml, hown, hts⟩ (c_M_alterS l D cI cL cO N t0 mi hl0 x0 lim a0 k0 u0 v0 t1 gen wrg rns als d0 sz mo cap rf h0 q1 q2 q3 q4 q5 o f ee t b ic bc sa gn ((wO cL o0 og) ++ fr) bi i v hi0 hi1 hi2 hi3 v1 H.size) (cwV 3 hts (gBIG (m4 k_ml_L_33 k_im_M_alter k_sel_M_alter k_ini_M) k_co_M_alter) rfl rfl rfl (by decide +kernel) ⟨Nat.le_of_ble_eq_true rfl, Nat.le_of_ble_eq_true rfl⟩) ⟨PX.bl, va_recv hK.1 hP (ci := 3) (q0 := 0) rfl rfl, PX.pre hP hD hK hE hS hAN hN⟩ rfl rfl hl.1 rfl (lv_room (Nat.le_of_ble_eq_true rfl)) d_L_alter_7 ⟨Nat.le_of_ble_eq_true rfl, Nat.le_of_ble_eq_true rfl⟩) hS hAi hown ht hNC hE.1 [(0, 12, 15, 19)] (0, 12, 19, 31) [(0, 12, 23, 21)] htab (by intro y hy; rcases List.mem_cons.mp hy with rfl | hy; exact ⟨⟨by decide, by decide⟩, by decide, _, klc_19, by decide +kernel⟩; exact absurd hy List.not_mem_nil) ⟨⟨by decide, by decide⟩, by decide, klc_31⟩ kcc_S (fun ax H locs hq hS => ?_)
  obtain ⟨u, hP, hD⟩ := hq
  have hD := hD.weaken (fun _ q _ h => hAi q.1 h)
  have hP : va_P D vwCl ((wX x0 lim a0 k0 u0 v0 t1 gen wrg rns als) ++ ((wH a0 d0 sz mo) ++ ((wR cO d0 cap rf) ++ ((wB cI h0 q1 q2 q3 q4 q5 o f ee t b ic bc sa gn) ++ ((wO cL o0 og) ++ fr))))) H := hP
  have hD : va_D A ((wX x0 lim a0 k0 u0 v0 t1 gen wrg rns als) ++ ((wH a0 d0 sz mo) ++ ((wR cO d0 cap rf) ++ ((wB cI h0 q1 q2 q3 q4 q5 o f ee t b ic bc sa gn) ++ ((wO cL o0 og) ++ fr))))) := hD
  refine lv_astore (lv' := [(5, .ref ax), (0, .ref x0), (1, .int bi), (2, .int i), (3, .int v), (4, .ref o0)]) hx hb d_L_alter_19 hl (by decide) rfl (fun ls hl => ?_)
  refine lv_iconst (v := 2) hx hb d_L_alter_21 (by decide) ?_
  refine W.widen (k := 1) (n := 6) (by omega) (by omega) ?_
  rw [hQ]; exact retMi (w1 := fun u : Unit => ((wX x0 lim a0 k0 u0 v0 t1 gen wrg rns als) ++ ((wH a0 d0 sz mo) ++ ((wR cO d0 cap rf) ++ ((wB cI h0 q1 q2 q3 q4 q5 o f ee t b ic bc sa gn) ++ ((wO cL o0 og) ++ fr)))))) () hx hb hr hlocks hP hD hS rfl d_L_alter_22

set_option maxHeartbeats 1000000 in
set_option maxRecDepth 100000 in
theorem c_L_alterA (l : Launch) (D : va_G) (cI cL cO : ClassId) (N t0 mi : Nat) (hl0 : l.stackTraces = false) (x0 : Nat) (lim : Int32) (a0 : Nat) (k0 : Nat) (u0 : Nat) (v0 : Nat) (t1 : Nat) (gen : Int32) (wrg : Int32) (rns : Int32) (als : Int32) (d0 : Nat) (sz : Int32) (mo : Int32) (cap : Nat) (rf : Nat → Option Nat) (h0 : Nat) (q1 : Nat) (q2 : Nat) (q3 : Nat) (q4 : Nat) (q5 : Nat) (o : Fn) (f : Fn) (ee : Fn) (t : Fn) (b : Fn) (ic : Int32) (bc : Int32) (sa : Int32) (gn : Int32) (o0 : Nat) (og : FL) (fr : va_W) (bi : Int32) (i : Int32) (v : Int32) (hi0 : ¬ bi < 0) (hi1 : bi < sz) (hi2 : vp_in bi cap) (hi3 : rf bi.toNatClampNeg = some h0) (v1 : sa = 1) (v2 : hasF bc i = 0 ∨ v < 0 ∨ ¬ v ≤ 255) : CHi l y_L_alter w_L_alter rm_L_alter D cI cL cO N t0 mi [.ref x0, .int bi, .int i, .int v, .ref o0] ((wX x0 lim a0 k0 u0 v0 t1 gen wrg rns als) ++ ((wH a0 d0 sz mo) ++ ((wR cO d0 cap rf) ++ ((wB cI h0 q1 q2 q3 q4 q5 o f ee t b ic bc sa gn) ++ ((wO cL o0 og) ++ fr))))) (fun (r : Int32) (u : Unit) => r = 3) (fun u : Unit => ((wX x0 lim a0 k0 u0 v0 t1 gen wrg rns als) ++ ((wH a0 d0 sz mo) ++ ((wR cO d0 cap rf) ++ ((wB cI h0 q1 q2 q3 q4 q5 o f ee t b ic bc sa gn) ++ ((wO cL o0 og) ++ fr)))))) 1 6 := by
  refine ofH (cc := b_L_alter) (maxL := 6) (ret := (some .int)) (hh := [(0, 12, 15, 19), (0, 12, 19, 31), (0, 12, 23, 21)]) (by decide) rfl (Nat.le_of_ble_eq_true rfl) ?_
  intro p e s m below meth c A ls H Q hQ hx hb hr hlocks htab hts hown hml hP hK hD hS hA hl hE hN hAN hNC
  have hl : lv_has ls 6 [(0, .ref x0), (1, .int bi), (2, .int i), (3, .int v), (4, .ref o0)] := hl
  have hown : s.vm.findClass R_L = some m.cls := hown
  have ht : ∀ w ∈ BIG, w.before _ s = true := fun w h => hts w (List.mem_cons_of_mem _ h)
  refine lv_aload hx hb d_L_alter_0 (lv_at hl 4 rfl) ?_
  refine lv_iconst (v := 0) hx hb d_L_alter_2 (by decide) ?_
  refine lv_aload_n hx hb d_L_alter_3 rfl (lv_at hl 0 rfl) ?_
  refine lv_iload_n hx hb d_L_alter_4 rfl (lv_at hl 1 rfl) ?_
  refine lv_iload_n hx hb d_L_alter_5 rfl (lv_at hl 2 rfl) ?_
  refine lv_iload_n hx hb d_L_alter_6 rfl (lv_at hl 3 rfl) ?_
  have hAi := A_in hD hS hA
  refine goT (N := N) (runT (As := [.int bi, .int i, .int v]) (rest := [.int 0, .ref o0]) ⟨hx, hb, hml, hown, hts⟩ (c_M_alterA l D cI cL cO N t0 mi hl0 x0 lim a0 k0 u0 v0 t1 gen wrg rns als d0 sz mo cap rf h0 q1 q2 q3 q4 q5 o f ee t b ic bc sa gn ((wO cL o0 og) ++ fr) bi i v hi0 hi1 hi2 hi3 v1 v2 H.size) (cwV 3 hts (gBIG (m4 k_ml_L_33 k_im_M_alter k_sel_M_alter k_ini_M) k_co_M_alter) rfl rfl rfl (by decide +kernel) ⟨Nat.le_of_ble_eq_true rfl, Nat.le_of_ble_eq_true rfl⟩) ⟨PX.bl, va_recv hK.1 hP (ci := 3) (q0 := 0) rfl rfl, PX.pre hP hD hK hE hS hAN hN⟩ rfl rfl hl.1 rfl (lv_room (Nat.le_of_ble_eq_true rfl)) d_L_alter_7 ⟨Nat.le_of_ble_eq_true rfl, Nat.le_of_ble_eq_true rfl⟩) hS hAi hown ht hNC hE.1 [(0, 12, 15, 19), (0, 12, 19, 31)] (0, 12, 23, 21) [] htab (by intro y hy; rcases List.mem_cons.mp hy with rfl | hy; exact ⟨⟨by decide, by decide⟩, by decide, _, klc_19, by decide +kernel⟩; rcases List.mem_cons.mp hy with rfl | hy; exact ⟨⟨by decide, by decide⟩, by decide, _, klc_31, by decide +kernel⟩; exact absurd hy List.not_mem_nil) ⟨⟨by decide, by decide⟩, by decide, klc_21⟩ kcc_A (fun ax H locs hq hS => ?_)
  obtain ⟨u, hP, hD⟩ := hq
  have hD := hD.weaken (fun _ q _ h => hAi q.1 h)
  have hP : va_P D vwCl ((wX x0 lim a0 k0 u0 v0 t1 gen wrg rns als) ++ ((wH a0 d0 sz mo) ++ ((wR cO d0 cap rf) ++ ((wB cI h0 q1 q2 q3 q4 q5 o f ee t b ic bc sa gn) ++ ((wO cL o0 og) ++ fr))))) H := hP
  have hD : va_D A ((wX x0 lim a0 k0 u0 v0 t1 gen wrg rns als) ++ ((wH a0 d0 sz mo) ++ ((wR cO d0 cap rf) ++ ((wB cI h0 q1 q2 q3 q4 q5 o f ee t b ic bc sa gn) ++ ((wO cL o0 og) ++ fr))))) := hD
  refine lv_astore (lv' := [(5, .ref ax), (0, .ref x0), (1, .int bi), (2, .int i), (3, .int v), (4, .ref o0)]) hx hb d_L_alter_23 hl (by decide) rfl (fun ls hl => ?_)
  refine lv_iconst (v := 3) hx hb d_L_alter_25 (by decide) ?_
  refine W.widen (k := 1) (n := 6) (by omega) (by omega) ?_
  rw [hQ]; exact retMi (w1 := fun u : Unit => ((wX x0 lim a0 k0 u0 v0 t1 gen wrg rns als) ++ ((wH a0 d0 sz mo) ++ ((wR cO d0 cap rf) ++ ((wB cI h0 q1 q2 q3 q4 q5 o f ee t b ic bc sa gn) ++ ((wO cL o0 og) ++ fr)))))) () hx hb hr hlocks hP hD hS rfl d_L_alter_26

abbrev w_L_check : List Cond := .codeWith y_L_check b_L_check 4 (some .int) [(0, 9, 12, 19), (0, 9, 15, 31)] :: BIG
abbrev rm_L_check : Room := { frames := 9, cells := 1, slots := 6, locals := 330 }
set_option maxHeartbeats 1000000 in
set_option maxRecDepth 100000 in
theorem c_L_check (l : Launch) (D : va_G) (cI cL cO : ClassId) (N t0 mi : Nat) (x0 : Nat) (lim : Int32) (a0 : Nat) (k0 : Nat) (u0 : Nat) (v0 : Nat) (t1 : Nat) (gen : Int32) (wrg : Int32) (rns : Int32) (als : Int32) (d0 : Nat) (sz : Int32) (mo : Int32) (cap : Nat) (rf : Nat → Option Nat) (h0 : Nat) (q1 : Nat) (q2 : Nat) (q3 : Nat) (q4 : Nat) (q5 : Nat) (o : Fn) (f : Fn) (ee : Fn) (t : Fn) (b : Fn) (ic : Int32) (bc : Int32) (sa : Int32) (gn : Int32) (k1 : Nat) (dd : Fn) (o0 : Nat) (og : FL) (fr : va_W) (bi : Int32) (hi0 : ¬ bi < 0) (hi1 : bi < sz) (hi2 : vp_in bi cap) (hi3 : rf bi.toNatClampNeg = some h0) (v1 : ¬ sa = 0) : CHi l y_L_check w_L_check rm_L_check D cI cL cO N t0 mi [.ref x0, .int bi, .ref o0] ((wX x0 lim a0 k0 u0 v0 t1 gen wrg rns als) ++ ((wH a0 d0 sz mo) ++ ((wR cO d0 cap rf) ++ ((wB cI h0 q1 q2 q3 q4 q5 o f ee t b ic bc sa gn) ++ ((wK k0 k1) ++ ((wI3 cI k1 dd) ++ ((wO cL o0 og) ++ fr))))))) (fun (r : Int32) (u : (Fn) × FL) => r = 0 ∧ ∃ rr : Int32, (rr = vdF b bc ∧ u.1 = (vcF b bc).2) ∧ u.2 0 = (rr).toInt64) (fun u : (Fn) × FL => ((wX x0 lim a0 k0 u0 v0 t1 gen wrg rns als) ++ ((wH a0 d0 sz mo) ++ ((wR cO d0 cap rf) ++ ((wB cI h0 q1 q2 q3 q4 q5 o f ee t b ic bc sa gn) ++ ((wK k0 k1) ++ ((wI3 cI k1 u.1) ++ ((wO cL o0 u.2) ++ fr)))))))) 1 6 := by
  refine ofH (cc := b_L_check) (maxL := 4) (ret := (some .int)) (hh := [(0, 9, 12, 19), (0, 9, 15, 31)]) (by decide) rfl (Nat.le_of_ble_eq_true rfl) ?_
  intro p e s m below meth c A ls H Q hQ hx hb hr hlocks htab hts hown hml hP hK hD hS hA hl hE hN hAN hNC
  have hl : lv_has ls 4 [(0, .ref x0), (1, .int bi), (2, .ref o0)] := hl
  have hown : s.vm.findClass R_L = some m.cls := hown
  have ht : ∀ w ∈ BIG, w.before _ s = true := fun w h => hts w (List.mem_cons_of_mem _ h)
  refine lv_aload_n hx hb d_L_check_0 rfl (lv_at hl 2 rfl) ?_
  refine lv_iconst (v := 0) hx hb d_L_check_1 (by decide) ?_
  refine lv_aload_n hx hb d_L_check_2 rfl (lv_at hl 0 rfl) ?_
  refine lv_iload_n hx hb d_L_check_3 rfl (lv_at hl 1 rfl) ?_
  refine goMi (va_runV (As := [.int bi]) (rest := [.int 0, .ref o0]) ⟨hx, hb, hml, hown, hts⟩ (c_M_check l D cI cL cO x0 lim a0 k0 u0 v0 t1 gen wrg rns als d0 sz mo cap rf h0 q1 q2 q3 q4 q5 o f ee t b ic bc sa gn k1 dd ((wO cL o0 og) ++ fr) bi hi0 hi1 hi2 hi3 v1 H.size) (cwV 1 hts (gBIG (m4 k_ml_L_37 k_im_M_check k_sel_M_check k_ini_M) k_co_M_check) rfl rfl rfl (by decide +kernel) ⟨Nat.le_of_ble_eq_true rfl, Nat.le_of_ble_eq_true rfl⟩) ⟨PM.bl, va_recv hK.1 hP (ci := 3) (q0 := 0) rfl rfl, PM.pre hP hD hK⟩ rfl rfl hl.1 rfl (lv_room (Nat.le_of_ble_eq_true rfl)) d_L_check_4 ⟨Nat.le_of_ble_eq_true rfl, Nat.le_of_ble_eq_true rfl⟩) hD hS hA (fun r_4 u H locs hw hP hD hS => ?_)
  obtain ⟨dd_4, rfl⟩ : ∃ z, z = u := ⟨_, rfl⟩
  have e_4 : r_4 = vdF b bc ∧ dd_4 = (vcF b bc).2 := hw
  have hP : va_P D vwCl ((wX x0 lim a0 k0 u0 v0 t1 gen wrg rns als) ++ ((wH a0 d0 sz mo) ++ ((wR cO d0 cap rf) ++ ((wB cI h0 q1 q2 q3 q4 q5 o f ee t b ic bc sa gn) ++ ((wK k0 k1) ++ ((wI3 cI k1 dd_4) ++ ((wO cL o0 og) ++ fr))))))) H := hP
  have hD : va_D A ((wX x0 lim a0 k0 u0 v0 t1 gen wrg rns als) ++ ((wH a0 d0 sz mo) ++ ((wR cO d0 cap rf) ++ ((wB cI h0 q1 q2 q3 q4 q5 o f ee t b ic bc sa gn) ++ ((wK k0 k1) ++ ((wI3 cI k1 dd_4) ++ ((wO cL o0 og) ++ fr))))))) := hD
  refine lv_i2l (v := r_4.toInt64) hx hb d_L_check_7 rfl ?_
  refine va_last hx hb hK.1 hP hD hS 11 1 rfl rfl (by unfold vp_in; decide) d_L_check_8 (fun H locs hP hD hS => ?_)
  have hP : va_P D vwCl ((wX x0 lim a0 k0 u0 v0 t1 gen wrg rns als) ++ ((wH a0 d0 sz mo) ++ ((wR cO d0 cap rf) ++ ((wB cI h0 q1 q2 q3 q4 q5 o f ee t b ic bc sa gn) ++ ((wK k0 k1) ++ ((wI3 cI k1 dd_4) ++ ((wO cL o0 (vp_updL og (0 : Int32).toNatClampNeg r_4.toInt64)) ++ fr))))))) H := hP
  have hD : va_D A ((wX x0 lim a0 k0 u0 v0 t1 gen wrg rns als) ++ ((wH a0 d0 sz mo) ++ ((wR cO d0 cap rf) ++ ((wB cI h0 q1 q2 q3 q4 q5 o f ee t b ic bc sa gn) ++ ((wK k0 k1) ++ ((wI3 cI k1 dd_4) ++ ((wO cL o0 (vp_updL og (0 : Int32).toNatClampNeg r_4.toInt64)) ++ fr))))))) := hD
  refine lv_goto (tgt := 18) hx hb d_L_check_9 (by decide) ?_
  refine lv_iconst (v := 0) hx hb d_L_check_18 (by decide) ?_
  refine W.widen (k := 1) (n := 6) (by omega) (by omega) ?_
  rw [hQ]; exact retMi (w1 := fun u : (Fn) × FL => ((wX x0 lim a0 k0 u0 v0 t1 gen wrg rns als) ++ ((wH a0 d0 sz mo) ++ ((wR cO d0 cap rf) ++ ((wB cI h0 q1 q2 q3 q4 q5 o f ee t b ic bc sa gn) ++ ((wK k0 k1) ++ ((wI3 cI k1 u.1) ++ ((wO cL o0 u.2) ++ fr)))))))) ((dd_4), (vp_updL og (0 : Int32).toNatClampNeg r_4.toInt64)) hx hb hr hlocks hP hD hS ⟨rfl, _, e_4, (og0 (f := og))⟩ d_L_check_19

set_option maxHeartbeats 1000000 in
set_option maxRecDepth 100000 in
theorem c_L_checkX (l : Launch) (D : va_G) (cI cL cO : ClassId) (N t0 mi : Nat) (hl0 : l.stackTraces = false) (x0 : Nat) (lim : Int32) (a0 : Nat) (k0 : Nat) (u0 : Nat) (v0 : Nat) (t1 : Nat) (gen : Int32) (wrg : Int32) (rns : Int32) (als : Int32) (d0 : Nat) (sz : Int32) (mo : Int32) (o0 : Nat) (og : FL) (fr : va_W) (bi : Int32) (hbad : bi < 0 ∨ ¬ bi < sz) : CHi l y_L_check w_L_check rm_L_check D cI cL cO N t0 mi [.ref x0, .int bi, .ref o0] ((wX x0 lim a0 k0 u0 v0 t1 gen wrg rns als) ++ ((wH a0 d0 sz mo) ++ ((wO cL o0 og) ++ fr))) (fun (r : Int32) (u : Unit) => r = 1) (fun u : Unit => ((wX x0 lim a0 k0 u0 v0 t1 gen wrg rns als) ++ ((wH a0 d0 sz mo) ++ ((wO cL o0 og) ++ fr)))) 1 6 := by
  refine ofH (cc := b_L_check) (maxL := 4) (ret := (some .int)) (hh := [(0, 9, 12, 19), (0, 9, 15, 31)]) (by decide) rfl (Nat.le_of_ble_eq_true rfl) ?_
  intro p e s m below meth c A ls H Q hQ hx hb hr hlocks htab hts hown hml hP hK hD hS hA hl hE hN hAN hNC
  have hl : lv_has ls 4 [(0, .ref x0), (1, .int bi), (2, .ref o0)] := hl
  have hown : s.vm.findClass R_L = some m.cls := hown
  have ht : ∀ w ∈ BIG, w.before _ s = true := fun w h => hts w (List.mem_cons_of_mem _ h)
  refine lv_aload_n hx hb d_L_check_0 rfl (lv_at hl 2 rfl) ?_
  refine lv_iconst (v := 0) hx hb d_L_check_1 (by decide) ?_
  refine lv_aload_n hx hb d_L_check_2 rfl (lv_at hl 0 rfl) ?_
  refine lv_iload_n hx hb d_L_check_3 rfl (lv_at hl 1 rfl) ?_
  have hAi := A_in hD hS hA
  refine goT (N := N) (runT (As := [.int bi]) (rest := [.int 0, .ref o0]) ⟨hx, hb, hml, hown, hts⟩ (c_M_checkX l D cI cL cO N t0 mi hl0 x0 lim a0 k0 u0 v0 t1 gen wrg rns als d0 sz mo ((wO cL o0 og) ++ fr) bi hbad H.size) (cwV 1 hts (gBIG (m4 k_ml_L_37 k_im_M_check k_sel_M_check k_ini_M) k_co_M_check) rfl rfl rfl (by decide +kernel) ⟨Nat.le_of_ble_eq_true rfl, Nat.le_of_ble_eq_true rfl⟩) ⟨PX.bl, va_recv hK.1 hP (ci := 3) (q0 := 0) rfl rfl, PX.pre hP hD hK hE hS hAN hN⟩ rfl rfl hl.1 rfl (lv_room (Nat.le_of_ble_eq_true rfl)) d_L_check_4 ⟨Nat.le_of_ble_eq_true rfl, Nat.le_of_ble_eq_true rfl⟩) hS hAi hown ht hNC hE.1 [] (0, 9, 12, 19) [(0, 9, 15, 31)] htab (fun y hy => absurd hy List.not_mem_nil) ⟨⟨by decide, by decide⟩, by decide, klc_19⟩ kcc_X (fun ax H locs hq hS => ?_)
  obtain ⟨u, hP, hD⟩ := hq
  have hD := hD.weaken (fun _ q _ h => hAi q.1 h)
  have hP : va_P D vwCl ((wX x0 lim a0 k0 u0 v0 t1 gen wrg rns als) ++ ((wH a0 d0 sz mo) ++ ((wO cL o0 og) ++ fr))) H := hP
  have hD : va_D A ((wX x0 lim a0 k0 u0 v0 t1 gen wrg rns als) ++ ((wH a0 d0 sz mo) ++ ((wO cL o0 og) ++ fr))) := hD
  refine lv_astore_n (lv' := [(3, .ref ax), (0, .ref x0), (1, .int bi), (2, .ref o0)]) hx hb d_L_check_12 rfl hl (by decide) rfl (fun ls hl => ?_)
  refine lv_iconst (v := 1) hx hb d_L_check_13 (by decide) ?_
  refine W.widen (k := 1) (n := 6) (by omega) (by omega) ?_
  rw [hQ]; exact retMi (w1 := fun u : Unit => ((wX x0 lim a0 k0 u0 v0 t1 gen wrg rns als) ++ ((wH a0 d0 sz mo) ++ ((wO cL o0 og) ++ fr)))) () hx hb hr hlocks hP hD hS rfl d_L_check_14

set_option maxHeartbeats 1000000 in
set_option maxRecDepth 100000 in
theorem c_L_checkS (l : Launch) (D : va_G) (cI cL cO : ClassId) (N t0 mi : Nat) (hl0 : l.stackTraces = false) (x0 : Nat) (lim : Int32) (a0 : Nat) (k0 : Nat) (u0 : Nat) (v0 : Nat) (t1 : Nat) (gen : Int32) (wrg : Int32) (rns : Int32) (als : Int32) (d0 : Nat) (sz : Int32) (mo : Int32) (cap : Nat) (rf : Nat → Option Nat) (h0 : Nat) (q1 : Nat) (q2 : Nat) (q3 : Nat) (q4 : Nat) (q5 : Nat) (o : Fn) (f : Fn) (ee : Fn) (t : Fn) (b : Fn) (ic : Int32) (bc : Int32) (sa : Int32) (gn : Int32) (o0 : Nat) (og : FL) (fr : va_W) (bi : Int32) (hi0 : ¬ bi < 0) (hi1 : bi < sz) (hi2 : vp_in bi cap) (hi3 : rf bi.toNatClampNeg = some h0) (v1 : sa = 0) : CHi l y_L_check w_L_check rm_L_check D cI cL cO N t0 mi [.ref x0, .int bi, .ref o0] ((wX x0 lim a0 k0 u0 v0 t1 gen wrg rns als) ++ ((wH a0 d0 sz mo) ++ ((wR cO d0 cap rf) ++ ((wB cI h0 q1 q2 q3 q4 q5 o f ee t b ic bc sa gn) ++ ((wO cL o0 og) ++ fr))))) (fun (r : Int32) (u : Unit) => r = 2) (fun u : Unit => ((wX x0 lim a0 k0 u0 v0 t1 gen wrg rns als) ++ ((wH a0 d0 sz mo) ++ ((wR cO d0 cap rf) ++ ((wB cI h0 q1 q2 q3 q4 q5 o f ee t b ic bc sa gn) ++ ((wO cL o0 og) ++ fr)))))) 1 6 := by
  refine ofH (cc := b_L_check) (maxL := 4) (ret := (some .int)) (hh := [(0, 9, 12, 19), (0, 9, 15, 31)]) (by decide) rfl (Nat.le_of_ble_eq_true rfl) ?_
  intro p e s m below meth c A ls H Q hQ hx hb hr hlocks htab hts hown hml hP hK hD hS hA hl hE hN hAN hNC
  have hl : lv_has ls 4 [(0, .ref x0), (1, .int bi), (2, .ref o0)] := hl
  have hown : s.vm.findClass R_L = some m.cls := hown
  have ht : ∀ w ∈ BIG, w.before _ s = true := fun w h => hts w (List.mem_cons_of_mem _ h)
  refine lv_aload_n hx hb d_L_check_0 rfl (lv_at hl 2 rfl) ?_
  refine lv_iconst (v := 0) hx hb d_L_check_1 (by decide) ?_
  refine lv_aload_n hx hb d_L_check_2 rfl (lv_at hl 0 rfl) ?_
  refine lv_iload_n hx hb d_L_check_3 rfl (lv_at hl 1 rfl) ?_
  have hAi := A_in hD hS hA
  refine goT (N := N) (runT (As := [.int bi]) (rest := [.int 0, .ref o0]) ⟨hx, hb, hml, hown, hts⟩ (c_M_checkS l D cI cL cO N t0 mi hl0 x0 lim a0 k0 u0 v0 t1 gen wrg rns als d0 sz mo cap rf h0 q1 q2 q3 q4 q5 o f ee t b ic bc sa gn ((wO cL o0 og) ++ fr) bi hi0 hi1 hi2 hi3 v1 H.size) (cwV 1 hts (gBIG (m4 k_ml_L_37 k_im_M_check k_sel_M_check k_ini_M) k_co_M_check) rfl rfl rfl (by decide +kernel) ⟨Nat.le_of_ble_eq_true rfl, Nat.le_of_ble_eq_true rfl⟩) ⟨PX.bl, va_recv hK.1 hP (ci := 3) (q0 := 0) rfl rfl, PX.pre hP hD hK hE hS hAN hN⟩ rfl rfl hl.1 rfl (lv_room (Nat.le_of_ble_eq_true rfl)) d_L_check_4 ⟨Nat.le_of_ble_eq_true rfl, Nat.le_of_ble_eq_true rfl⟩) hS hAi hown ht hNC hE.1 [(0, 9, 12, 19)] (0, 9, 15, 31) [] htab (by intro y hy; rcases List.mem_cons.mp hy with rfl | hy; exact ⟨⟨by decide, by decide⟩, by decide, _, klc_19, by decide +kernel⟩; exact absurd hy List.not_mem_nil) ⟨⟨by decide, by decide⟩, by decide, klc_31⟩ kcc_S (fun ax H locs hq hS => ?_)
  obtain ⟨u, hP, hD⟩ := hq
  have hD := hD.weaken (fun _ q _ h => hAi q.1 h)
  have hP : va_P D vwCl ((wX x0 lim a0 k0 u0 v0 t1 gen wrg rns als) ++ ((wH a0 d0 sz mo) ++ ((wR cO d0 cap rf) ++ ((wB cI h0 q1 q2 q3 q4 q5 o f ee t b ic bc sa gn) ++ ((wO cL o0 og) ++ fr))))) H := hP
  have hD : va_D A ((wX x0 lim a0 k0 u0 v0 t1 gen wrg rns als) ++ ((wH a0 d0 sz mo) ++ ((wR cO d0 cap rf) ++ ((wB cI h0 q1 q2 q3 q4 q5 o f ee t b ic bc sa gn) ++ ((wO cL o0 og) ++ fr))))) := hD
  refine lv_astore_n (lv' := [(3, .ref ax), (0, .ref x0), (1, .int bi), (2, .ref o0)]) hx hb d_L_check_15 rfl hl (by decide) rfl (fun ls hl => ?_)
  refine lv_iconst (v := 2) hx hb d_L_check_16 (by decide) ?_
  refine W.widen (k := 1) (n := 6) (by omega) (by omega) ?_
  rw [hQ]; exact retMi (w1 := fun u : Unit => ((wX x0 lim a0 k0 u0 v0 t1 gen wrg rns als) ++ ((wH a0 d0 sz mo) ++ ((wR cO d0 cap rf) ++ ((wB cI h0 q1 q2 q3 q4 q5 o f ee t b ic bc sa gn) ++ ((wO cL o0 og) ++ fr)))))) () hx hb hr hlocks hP hD hS rfl d_L_check_17

abbrev w_L_what : List Cond := .codeWith y_L_what b_L_what 5 (some .int) [(0, 10, 13, 19), (0, 10, 17, 21)] :: BIG
abbrev rm_L_what : Room := { frames := 9, cells := 1, slots := 6, locals := 330 }
set_option maxHeartbeats 1000000 in
set_option maxRecDepth 100000 in
theorem c_L_what (l : Launch) (D : va_G) (cI cL cO : ClassId) (N t0 mi : Nat) (x0 : Nat) (lim : Int32) (a0 : Nat) (k0 : Nat) (u0 : Nat) (v0 : Nat) (t1 : Nat) (gen : Int32) (wrg : Int32) (rns : Int32) (als : Int32) (d0 : Nat) (sz : Int32) (mo : Int32) (cap : Nat) (rf : Nat → Option Nat) (h0 : Nat) (q1 : Nat) (q2 : Nat) (q3 : Nat) (q4 : Nat) (q5 : Nat) (o : Fn) (f : Fn) (ee : Fn) (t : Fn) (b : Fn) (ic : Int32) (bc : Int32) (sa : Int32) (gn : Int32) (o0 : Nat) (og : FL) (fr : va_W) (bi : Int32) (w : Int32) (hi0 : ¬ bi < 0) (hi1 : bi < sz) (hi2 : vp_in bi cap) (hi3 : rf bi.toNatClampNeg = some h0) (v1 : w = 0 ∨ w = 1 ∨ w = 2 ∨ w = 3) : CHi l y_L_what w_L_what rm_L_what D cI cL cO N t0 mi [.ref x0, .int bi, .int w, .ref o0] ((wX x0 lim a0 k0 u0 v0 t1 gen wrg rns als) ++ ((wH a0 d0 sz mo) ++ ((wR cO d0 cap rf) ++ ((wB cI h0 q1 q2 q3 q4 q5 o f ee t b ic bc sa gn) ++ ((wO cL o0 og) ++ fr))))) (fun (r : Int32) (u : FL) => r = 0 ∧ u 0 = ((whM w sa gn ic bc)).toInt64) (fun u : FL => ((wX x0 lim a0 k0 u0 v0 t1 gen wrg rns als) ++ ((wH a0 d0 sz mo) ++ ((wR cO d0 cap rf) ++ ((wB cI h0 q1 q2 q3 q4 q5 o f ee t b ic bc sa gn) ++ ((wO cL o0 u) ++ fr)))))) 1 6 := by
  refine ofH (cc := b_L_what) (maxL := 5) (ret := (some .int)) (hh := [(0, 10, 13, 19), (0, 10, 17, 21)]) (by decide) rfl (Nat.le_of_ble_eq_true rfl) ?_
  intro p e s m below meth c A ls H Q hQ hx hb hr hlocks htab hts hown hml hP hK hD hS hA hl hE hN hAN hNC
  have hl : lv_has ls 5 [(0, .ref x0), (1, .int bi), (2, .int w), (3, .ref o0)] := hl
  have hown : s.vm.findClass R_L = some m.cls := hown
  have ht : ∀ w ∈ BIG, w.before _ s = true := fun w h => hts w (List.mem_cons_of_mem _ h)
  refine lv_aload_n hx hb d_L_what_0 rfl (lv_at hl 3 rfl) ?_
  refine lv_iconst (v := 0) hx hb d_L_what_1 (by decide) ?_
  refine lv_aload_n hx hb d_L_what_2 rfl (lv_at hl 0 rfl) ?_
  refine lv_iload_n hx hb d_L_what_3 rfl (lv_at hl 1 rfl) ?_
  refine lv_iload_n hx hb d_L_what_4 rfl (lv_at hl 2 rfl) ?_
  refine goRi (va_runV (As := [.int bi, .int w]) (rest := [.int 0, .ref o0]) ⟨hx, hb, hml, hown, hts⟩ (c_M_what l D cI cL cO x0 lim a0 k0 u0 v0 t1 gen wrg rns als d0 sz mo cap rf h0 q1 q2 q3 q4 q5 o f ee t b ic bc sa gn bi w hi0 hi1 hi2 hi3 v1) (cwV 2 hts (gBIG (m4 k_ml_L_40 k_im_M_what k_sel_M_what k_ini_M) k_co_M_what) rfl rfl rfl (by decide +kernel) ⟨Nat.le_of_ble_eq_true rfl, Nat.le_of_ble_eq_true rfl⟩) ⟨PR.bl, va_recv hK.1 (P_app.mpr ⟨(P_app.mp hP).1, (P_app.mpr ⟨(P_app.mp (P_app.mp hP).2).1, (P_app.mpr ⟨(P_app.mp (P_app.mp (P_app.mp hP).2).2).1, (P_app.mp (P_app.mp (P_app.mp (P_app.mp hP).2).2).2).1⟩)⟩)⟩) (ci := 3) (q0 := 0) rfl rfl, PR.pre (P_app.mpr ⟨(P_app.mp hP).1, (P_app.mpr ⟨(P_app.mp (P_app.mp hP).2).1, (P_app.mpr ⟨(P_app.mp (P_app.mp (P_app.mp hP).2).2).1, (P_app.mp (P_app.mp (P_app.mp (P_app.mp hP).2).2).2).1⟩)⟩)⟩) hK⟩ rfl rfl hl.1 rfl (lv_room (Nat.le_of_ble_eq_true rfl)) d_L_what_5 ⟨Nat.le_of_ble_eq_true rfl, Nat.le_of_ble_eq_true rfl⟩) ?_
  refine lv_i2l (v := (whM w sa gn ic bc).toInt64) hx hb d_L_what_8 rfl ?_
  refine va_last hx hb hK.1 hP hD hS 9 1 rfl rfl (by unfold vp_in; decide) d_L_what_9 (fun H locs hP hD hS => ?_)
  have hP : va_P D vwCl ((wX x0 lim a0 k0 u0 v0 t1 gen wrg rns als) ++ ((wH a0 d0 sz mo) ++ ((wR cO d0 cap rf) ++ ((wB cI h0 q1 q2 q3 q4 q5 o f ee t b ic bc sa gn) ++ ((wO cL o0 (vp_updL og (0 : Int32).toNatClampNeg ((whM w sa gn ic bc).toInt64))) ++ fr))))) H := hP
  have hD : va_D A ((wX x0 lim a0 k0 u0 v0 t1 gen wrg rns als) ++ ((wH a0 d0 sz mo) ++ ((wR cO d0 cap rf) ++ ((wB cI h0 q1 q2 q3 q4 q5 o f ee t b ic bc sa gn) ++ ((wO cL o0 (vp_updL og (0 : Int32).toNatClampNeg ((whM w sa gn ic bc).toInt64))) ++ fr))))) := hD
  refine lv_goto (tgt := 21) hx hb d_L_what_10 (by decide) ?_
  refine lv_iconst (v := 0) hx hb d_L_what_21 (by decide) ?_
  refine W.widen (k := 1) (n := 6) (by omega) (by omega) ?_
  rw [hQ]; exact retMi (w1 := fun u : FL => ((wX x0 lim a0 k0 u0 v0 t1 gen wrg rns als) ++ ((wH a0 d0 sz mo) ++ ((wR cO d0 cap rf) ++ ((wB cI h0 q1 q2 q3 q4 q5 o f ee t b ic bc sa gn) ++ ((wO cL o0 u) ++ fr)))))) (vp_updL og (0 : Int32).toNatClampNeg ((whM w sa gn ic bc).toInt64)) hx hb hr hlocks hP hD hS ⟨rfl, (og0 (f := og))⟩ d_L_what_22

set_option maxHeartbeats 1000000 in
set_option maxRecDepth 100000 in
theorem c_L_whatX (l : Launch) (D : va_G) (cI cL cO : ClassId) (N t0 mi : Nat) (hl0 : l.stackTraces = false) (x0 : Nat) (lim : Int32) (a0 : Nat) (k0 : Nat) (u0 : Nat) (v0 : Nat) (t1 : Nat) (gen : Int32) (wrg : Int32) (rns : Int32) (als : Int32) (d0 : Nat) (sz : Int32) (mo : Int32) (o0 : Nat) (og : FL) (fr : va_W) (bi : Int32) (w : Int32) (hbad : bi < 0 ∨ ¬ bi < sz) : CHi l y_L_what w_L_what rm_L_what D cI cL cO N t0 mi [.ref x0, .int bi, .int w, .ref o0] ((wX x0 lim a0 k0 u0 v0 t1 gen wrg rns als) ++ ((wH a0 d0 sz mo) ++ ((wO cL o0 og) ++ fr))) (fun (r : Int32) (u : Unit) => r = 1) (fun u : Unit => ((wX x0 lim a0 k0 u0 v0 t1 gen wrg rns als) ++ ((wH a0 d0 sz mo) ++ ((wO cL o0 og) ++ fr)))) 1 6 := by
  refine ofH (cc := b_L_what) (maxL := 5) (ret := (some .int)) (hh := [(0, 10, 13, 19), (0, 10, 17, 21)]) (by decide) rfl (Nat.le_of_ble_eq_true rfl) ?_
  intro p e s m below meth c A ls H Q hQ hx hb hr hlocks htab hts hown hml hP hK hD hS hA hl hE hN hAN hNC
  have hl : lv_has ls 5 [(0, .ref x0), (1, .int bi), (2, .int w), (3, .ref o0)] := hl
  have hown : s.vm.findClass R_L = some m.cls := hown
  have ht : ∀ w ∈ BIG, w.before _ s = true := fun w h => hts w (List.mem_cons_of_mem _ h)
  refine lv_aload_n hx hb d_L_what_0 rfl (lv_at hl 3 rfl) ?_
  refine lv_iconst (v := 0) hx hb d_L_what_1 (by decide) ?_
  refine lv_aload_n hx hb d_L_what_2 rfl (lv_at hl 0 rfl) ?_
  refine lv_iload_n hx hb d_L_what_3 rfl (lv_at hl 1 rfl) ?_
  refine lv_iload_n hx hb d_L_what_4 rfl (lv_at hl 2 rfl) ?_
  have hAi := A_in hD hS hA
  refine goT (N := N) (runT (As := [.int bi, .int w]) (rest := [.int 0, .ref o0]) ⟨hx, hb, hml, hown, hts⟩ (c_M_whatX l D cI cL cO N t0 mi hl0 x0 lim a0 k0 u0 v0 t1 gen wrg rns als d0 sz mo ((wO cL o0 og) ++ fr) bi w hbad H.size) (cwV 2 hts (gBIG (m4 k_ml_L_40 k_im_M_what k_sel_M_what k_ini_M) k_co_M_what) rfl rfl rfl (by decide +kernel) ⟨Nat.le_of_ble_eq_true rfl, Nat.le_of_ble_eq_true rfl⟩) ⟨PX.bl, va_recv hK.1 hP (ci := 3) (q0 := 0) rfl rfl, PX.pre hP hD hK hE hS hAN hN⟩ rfl rfl hl.1 rfl (lv_room (Nat.le_of_ble_eq_true rfl)) d_L_what_5 ⟨Nat.le_of_ble_eq_true rfl, Nat.le_of_ble_eq_true rfl⟩) hS hAi hown ht hNC hE.1 [] (0, 10, 13, 19) [(0, 10, 17, 21)] htab (fun y hy => absurd hy List.not_mem_nil) ⟨⟨by decide, by decide⟩, by decide, klc_19⟩ kcc_X (fun ax H locs hq hS => ?_)
  obtain ⟨u, hP, hD⟩ := hq
  have hD := hD.weaken (fun _ q _ h => hAi q.1 h)
  have hP : va_P D vwCl ((wX x0 lim a0 k0 u0 v0 t1 gen wrg rns als) ++ ((wH a0 d0 sz mo) ++ ((wO cL o0 og) ++ fr))) H := hP
  have hD : va_D A ((wX x0 lim a0 k0 u0 v0 t1 gen wrg rns als) ++ ((wH a0 d0 sz mo) ++ ((wO cL o0 og) ++ fr))) := hD
  refine lv_astore (lv' := [(4, .ref ax), (0, .ref x0), (1, .int bi), (2, .int w), (3, .ref o0)]) hx hb d_L_what_13 hl (by decide) rfl (fun ls hl => ?_)
  refine lv_iconst (v := 1) hx hb d_L_what_15 (by decide) ?_
  refine W.widen (k := 1) (n := 6) (by omega) (by omega) ?_
  rw [hQ]; exact retMi (w1 := fun u : Unit => ((wX x0 lim a0 k0 u0 v0 t1 gen wrg rns als) ++ ((wH a0 d0 sz mo) ++ ((wO cL o0 og) ++ fr)))) () hx hb hr hlocks hP hD hS rfl d_L_what_16

set_option maxHeartbeats 1000000 in
set_option maxRecDepth 100000 in
theorem c_L_whatA (l : Launch) (D : va_G) (cI cL cO : ClassId) (N t0 mi : Nat) (hl0 : l.stackTraces = false) (x0 : Nat) (lim : Int32) (a0 : Nat) (k0 : Nat) (u0 : Nat) (v0 : Nat) (t1 : Nat) (gen : Int32) (wrg : Int32) (rns : Int32) (als : Int32) (d0 : Nat) (sz : Int32) (mo : Int32) (cap : Nat) (rf : Nat → Option Nat) (h0 : Nat) (q1 : Nat) (q2 : Nat) (q3 : Nat) (q4 : Nat) (q5 : Nat) (o : Fn) (f : Fn) (ee : Fn) (t : Fn) (b : Fn) (ic : Int32) (bc : Int32) (sa : Int32) (gn : Int32) (o0 : Nat) (og : FL) (fr : va_W) (bi : Int32) (w : Int32) (hi0 : ¬ bi < 0) (hi1 : bi < sz) (hi2 : vp_in bi cap) (hi3 : rf bi.toNatClampNeg = some h0) (v1 : ¬ (w = 0 ∨ w = 1 ∨ w = 2 ∨ w = 3)) : CHi l y_L_what w_L_what rm_L_what D cI cL cO N t0 mi [.ref x0, .int bi, .int w, .ref o0] ((wX x0 lim a0 k0 u0 v0 t1 gen wrg rns als) ++ ((wH a0 d0 sz mo) ++ ((wR cO d0 cap rf) ++ ((wB cI h0 q1 q2 q3 q4 q5 o f ee t b ic bc sa gn) ++ ((wO cL o0 og) ++ fr))))) (fun (r : Int32) (u : Unit) => r = 2) (fun u : Unit => ((wX x0 lim a0 k0 u0 v0 t1 gen wrg rns als) ++ ((wH a0 d0 sz mo) ++ ((wR cO d0 cap rf) ++ ((wB cI h0 q1 q2 q3 q4 q5 o f ee t b ic bc sa gn) ++ ((wO cL o0 og) ++ fr)))))) 1 6 := by
  refine ofH (cc := b_L_what) (maxL := 5) (ret := (some .int)) (hh := [(0, 10, 13, 19), (0, 10, 17, 21)]) (by decide) rfl (Nat.le_of_ble_eq_true rfl) ?_
  intro p e s m below meth c A ls H Q hQ hx hb hr hlocks htab hts hown hml hP hK hD hS hA hl hE hN hAN hNC
  have hl : lv_has ls 5 [(0, .ref x0), (1, .int bi), (2, .int w), (3, .ref o0)] := hl
  have hown : s.vm.findClass R_L = some m.cls := hown
  have ht : ∀ w ∈ BIG, w.before _ s = true := fun w h => hts w (List.mem_cons_of_mem _ h)
  refine lv_aload_n hx hb d_L_what_0 rfl (lv_at hl 3 rfl) ?_
  refine lv_iconst (v := 0) hx hb d_L_what_1 (by decide) ?_
  refine lv_aload_n hx hb d_L_what_2 rfl (lv_at hl 0 rfl) ?_
  refine lv_iload_n hx hb d_L_what_3 rfl (lv_at hl 1 rfl) ?_
  refine lv_iload_n hx hb d_L_what_4 rfl (lv_at hl 2 rfl) ?_
  have hAi := A_in hD hS hA
  refine goT (N := N) (runT (As := [.int bi, .int w]) (rest := [.int 0, .ref o0]) ⟨hx, hb, hml, hown, hts⟩ (c_M_whatA l D cI cL cO N t0 mi hl0 x0 lim a0 k0 u0 v0 t1 gen wrg rns als d0 sz mo cap rf h0 q1 q2 q3 q4 q5 o f ee t b ic bc sa gn ((wO cL o0 og) ++ fr) bi w hi0 hi1 hi2 hi3 v1 H.size) (cwV 2 hts (gBIG (m4 k_ml_L_40 k_im_M_what k_sel_M_what k_ini_M) k_co_M_what) rfl rfl rfl (by decide +kernel) ⟨Nat.le_of_ble_eq_true rfl, Nat.le_of_ble_eq_true rfl⟩) ⟨PX.bl, va_recv hK.1 hP (ci := 3) (q0 := 0) rfl rfl, PX.pre hP hD hK hE hS hAN hN⟩ rfl rfl hl.1 rfl (lv_room (Nat.le_of_ble_eq_true rfl)) d_L_what_5 ⟨Nat.le_of_ble_eq_true rfl, Nat.le_of_ble_eq_true rfl⟩) hS hAi hown ht hNC hE.1 [(0, 10, 13, 19)] (0, 10, 17, 21) [] htab (by intro y hy; rcases List.mem_cons.mp hy with rfl | hy; exact ⟨⟨by decide, by decide⟩, by decide, _, klc_19, by decide +kernel⟩; exact absurd hy List.not_mem_nil) ⟨⟨by decide, by decide⟩, by decide, klc_21⟩ kcc_A (fun ax H locs hq hS => ?_)
  obtain ⟨u, hP, hD⟩ := hq
  have hD := hD.weaken (fun _ q _ h => hAi q.1 h)
  have hP : va_P D vwCl ((wX x0 lim a0 k0 u0 v0 t1 gen wrg rns als) ++ ((wH a0 d0 sz mo) ++ ((wR cO d0 cap rf) ++ ((wB cI h0 q1 q2 q3 q4 q5 o f ee t b ic bc sa gn) ++ ((wO cL o0 og) ++ fr))))) H := hP
  have hD : va_D A ((wX x0 lim a0 k0 u0 v0 t1 gen wrg rns als) ++ ((wH a0 d0 sz mo) ++ ((wR cO d0 cap rf) ++ ((wB cI h0 q1 q2 q3 q4 q5 o f ee t b ic bc sa gn) ++ ((wO cL o0 og) ++ fr))))) := hD
  refine lv_astore (lv' := [(4, .ref ax), (0, .ref x0), (1, .int bi), (2, .int w), (3, .ref o0)]) hx hb d_L_what_17 hl (by decide) rfl (fun ls hl => ?_)
  refine lv_iconst (v := 2) hx hb d_L_what_19 (by decide) ?_
  refine W.widen (k := 1) (n := 6) (by omega) (by omega) ?_
  rw [hQ]; exact retMi (w1 := fun u : Unit => ((wX x0 lim a0 k0 u0 v0 t1 gen wrg rns als) ++ ((wH a0 d0 sz mo) ++ ((wR cO d0 cap rf) ++ ((wB cI h0 q1 q2 q3 q4 q5 o f ee t b ic bc sa gn) ++ ((wO cL o0 og) ++ fr)))))) () hx hb hr hlocks hP hD hS rfl d_L_what_20

abbrev w_L_run : List Cond := .codeWith y_L_run b_L_run 8 (some .int) [(0, 13, 16, 19)] :: BIG
abbrev rm_L_run : Room := { frames := 9, cells := 1, slots := 6, locals := 330 }
set_option maxHeartbeats 1000000 in
set_option maxRecDepth 100000 in
theorem c_L_run (l : Launch) (D : va_G) (cI cL cO : ClassId) (N t0 mi : Nat) (x0 : Nat) (lim : Int32) (a0 : Nat) (k0 : Nat) (u0 : Nat) (v0 : Nat) (t1 : Nat) (gen : Int32) (wrg : Int32) (rns : Int32) (als : Int32) (d0 : Nat) (sz : Int32) (mo : Int32) (cap : Nat) (rf : Nat → Option Nat) (h0 : Nat) (q1 : Nat) (q2 : Nat) (q3 : Nat) (q4 : Nat) (q5 : Nat) (o : Fn) (f : Fn) (ee : Fn) (t : Fn) (b : Fn) (ic : Int32) (bc : Int32) (sa : Int32) (gn : Int32) (u1 : Nat) (u2 : Nat) (hg : Int32) (su : Int32) (en : Int32) (bb : Int32) (g : FL) (pl : FL) (o0 : Nat) (og : FL) (fr : va_W) (bi : Int32) (x : Int64) (y : Int64) (hi0 : ¬ bi < 0) (hi1 : bi < sz) (hi2 : vp_in bi cap) (hi3 : rf bi.toNatClampNeg = some h0) (hic : ¬ ic < 0) : CHi l y_L_run w_L_run rm_L_run D cI cL cO N t0 mi [.ref x0, .int bi, .long x, .long y, .ref o0] ((wX x0 lim a0 k0 u0 v0 t1 gen wrg rns als) ++ ((wH a0 d0 sz mo) ++ ((wR cO d0 cap rf) ++ ((wB cI h0 q1 q2 q3 q4 q5 o f ee t b ic bc sa gn) ++ ((wU u0 u1 u2 hg su en bb) ++ ((wL4 cL u1 g) ++ ((wL4 cL u2 pl) ++ ((wO cL o0 og) ++ fr)))))))) (fun (r : Int32) (u : (Int32 × Int32 × Int32 × Int32 × Int32 × Int32 × FL × FL) × FL) => r = 0 ∧ ∃ rr : Int32, (rnM o f ee b ic bc sa rns als x y pl rr u.1.1 u.1.2.1 u.1.2.2.2.2.2.2.1 u.1.2.2.2.1 u.1.2.2.2.2.1 u.1.2.2.2.2.2.1) ∧ u.2 0 = (rr).toInt64) (fun u : (Int32 × Int32 × Int32 × Int32 × Int32 × Int32 × FL × FL) × FL => ((wX x0 lim a0 k0 u0 v0 t1 gen wrg u.1.1 u.1.2.1) ++ ((wH a0 d0 sz mo) ++ ((wR cO d0 cap rf) ++ ((wB cI h0 q1 q2 q3 q4 q5 o f ee t b ic bc sa gn) ++ ((wU u0 u1 u2 u.1.2.2.1 u.1.2.2.2.1 u.1.2.2.2.2.1 u.1.2.2.2.2.2.1) ++ ((wL4 cL u1 u.1.2.2.2.2.2.2.1) ++ ((wL4 cL u2 u.1.2.2.2.2.2.2.2) ++ ((wO cL o0 u.2) ++ fr))))))))) 1 6 := by
  refine ofH (cc := b_L_run) (maxL := 8) (ret := (some .int)) (hh := [(0, 13, 16, 19)]) (by decide) rfl (Nat.le_of_ble_eq_true rfl) ?_
  intro p e s m below meth c A ls H Q hQ hx hb hr hlocks htab hts hown hml hP hK hD hS hA hl hE hN hAN hNC
  have hl : lv_has ls 8 [(0, .ref x0), (1, .int bi), (2, .long x), (4, .long y), (6, .ref o0)] := hl
  have hown : s.vm.findClass R_L = some m.cls := hown
  have ht : ∀ w ∈ BIG, w.before _ s = true := fun w h => hts w (List.mem_cons_of_mem _ h)
  refine lv_aload hx hb d_L_run_0 (lv_at hl 4 rfl) ?_
  refine lv_iconst (v := 0) hx hb d_L_run_2 (by decide) ?_
  refine lv_aload_n hx hb d_L_run_3 rfl (lv_at hl 0 rfl) ?_
  refine lv_iload_n hx hb d_L_run_4 rfl (lv_at hl 1 rfl) ?_
  refine lv_lload_n hx hb d_L_run_5 rfl (lv_at hl 2 rfl) ?_
  refine lv_lload hx hb d_L_run_6 (lv_at hl 3 rfl) ?_
  refine goMi (va_runV (As := [.int bi, .long x, .long y]) (rest := [.int 0, .ref o0]) ⟨hx, hb, hml, hown, hts⟩ (c_M_run l D cI cL cO x0 lim a0 k0 u0 v0 t1 gen wrg rns als d0 sz mo cap rf h0 q1 q2 q3 q4 q5 o f ee t b ic bc sa gn u1 u2 hg su en bb g pl ((wO cL o0 og) ++ fr) bi x y hi0 hi1 hi2 hi3 hic H.size) (cwV 3 hts (gBIG (m4 k_ml_L_43 k_im_M_run k_sel_M_run k_ini_M) k_co_M_run) rfl rfl rfl (by decide +kernel) ⟨Nat.le_of_ble_eq_true rfl, Nat.le_of_ble_eq_true rfl⟩) ⟨PM.bl, va_recv hK.1 hP (ci := 3) (q0 := 0) rfl rfl, PM.pre hP hD hK⟩ rfl rfl hl.1 rfl (lv_room (Nat.le_of_ble_eq_true rfl)) d_L_run_8 ⟨Nat.le_of_ble_eq_true rfl, Nat.le_of_ble_eq_true rfl⟩) hD hS hA (fun r_8 u H locs hw hP hD hS => ?_)
  obtain ⟨rns_8, als_8, hg_8, su_8, en_8, bb_8, g_8, pl_8⟩ := u
  have e_8 : rnM o f ee b ic bc sa rns als x y pl r_8 rns_8 als_8 g_8 su_8 en_8 bb_8 := hw
  have hP : va_P D vwCl ((wX x0 lim a0 k0 u0 v0 t1 gen wrg rns_8 als_8) ++ ((wH a0 d0 sz mo) ++ ((wR cO d0 cap rf) ++ ((wB cI h0 q1 q2 q3 q4 q5 o f ee t b ic bc sa gn) ++ ((wU u0 u1 u2 hg_8 su_8 en_8 bb_8) ++ ((wL4 cL u1 g_8) ++ ((wL4 cL u2 pl_8) ++ ((wO cL o0 og) ++ fr)))))))) H := hP
  have hD : va_D A ((wX x0 lim a0 k0 u0 v0 t1 gen wrg rns_8 als_8) ++ ((wH a0 d0 sz mo) ++ ((wR cO d0 cap rf) ++ ((wB cI h0 q1 q2 q3 q4 q5 o f ee t b ic bc sa gn) ++ ((wU u0 u1 u2 hg_8 su_8 en_8 bb_8) ++ ((wL4 cL u1 g_8) ++ ((wL4 cL u2 pl_8) ++ ((wO cL o0 og) ++ fr)))))))) := hD
  refine lv_i2l (v := r_8.toInt64) hx hb d_L_run_11 rfl ?_
  refine va_last hx hb hK.1 hP hD hS 12 1 rfl rfl (by unfold vp_in; decide) d_L_run_12 (fun H locs hP hD hS => ?_)
  have hP : va_P D vwCl ((wX x0 lim a0 k0 u0 v0 t1 gen wrg rns_8 als_8) ++ ((wH a0 d0 sz mo) ++ ((wR cO d0 cap rf) ++ ((wB cI h0 q1 q2 q3 q4 q5 o f ee t b ic bc sa gn) ++ ((wU u0 u1 u2 hg_8 su_8 en_8 bb_8) ++ ((wL4 cL u1 g_8) ++ ((wL4 cL u2 pl_8) ++ ((wO cL o0 (vp_updL og (0 : Int32).toNatClampNeg r_8.toInt64)) ++ fr)))))))) H := hP
  have hD : va_D A ((wX x0 lim a0 k0 u0 v0 t1 gen wrg rns_8 als_8) ++ ((wH a0 d0 sz mo) ++ ((wR cO d0 cap rf) ++ ((wB cI h0 q1 q2 q3 q4 q5 o f ee t b ic bc sa gn) ++ ((wU u0 u1 u2 hg_8 su_8 en_8 bb_8) ++ ((wL4 cL u1 g_8) ++ ((wL4 cL u2 pl_8) ++ ((wO cL o0 (vp_updL og (0 : Int32).toNatClampNeg r_8.toInt64)) ++ fr)))))))) := hD
  refine lv_goto (tgt := 20) hx hb d_L_run_13 (by decide) ?_
  refine lv_iconst (v := 0) hx hb d_L_run_20 (by decide) ?_
  refine W.widen (k := 1) (n := 6) (by omega) (by omega) ?_
  rw [hQ]; exact retMi (w1 := fun u : (Int32 × Int32 × Int32 × Int32 × Int32 × Int32 × FL × FL) × FL => ((wX x0 lim a0 k0 u0 v0 t1 gen wrg u.1.1 u.1.2.1) ++ ((wH a0 d0 sz mo) ++ ((wR cO d0 cap rf) ++ ((wB cI h0 q1 q2 q3 q4 q5 o f ee t b ic bc sa gn) ++ ((wU u0 u1 u2 u.1.2.2.1 u.1.2.2.2.1 u.1.2.2.2.2.1 u.1.2.2.2.2.2.1) ++ ((wL4 cL u1 u.1.2.2.2.2.2.2.1) ++ ((wL4 cL u2 u.1.2.2.2.2.2.2.2) ++ ((wO cL o0 u.2) ++ fr))))))))) ((rns_8, als_8, hg_8, su_8, en_8, bb_8, g_8, pl_8), (vp_updL og (0 : Int32).toNatClampNeg r_8.toInt64)) hx hb hr hlocks hP hD hS ⟨rfl, _, e_8, (og0 (f := og))⟩ d_L_run_21

set_option maxHeartbeats 1000000 in
set_option maxRecDepth 100000 in
theorem c_L_runX (l : Launch) (D : va_G) (cI cL cO : ClassId) (N t0 mi : Nat) (hl0 : l.stackTraces = false) (x0 : Nat) (lim : Int32) (a0 : Nat) (k0 : Nat) (u0 : Nat) (v0 : Nat) (t1 : Nat) (gen : Int32) (wrg : Int32) (rns : Int32) (als : Int32) (d0 : Nat) (sz : Int32) (mo : Int32) (o0 : Nat) (og : FL) (fr : va_W) (bi : Int32) (x : Int64) (y : Int64) (hbad : bi < 0 ∨ ¬ bi < sz) : CHi l y_L_run w_L_run rm_L_run D cI cL cO N t0 mi [.ref x0, .int bi, .long x, .long y, .ref o0] ((wX x0 lim a0 k0 u0 v0 t1 gen wrg rns als) ++ ((wH a0 d0 sz mo) ++ ((wO cL o0 og) ++ fr))) (fun (r : Int32) (u : Unit) => r = 1) (fun u : Unit => ((wX x0 lim a0 k0 u0 v0 t1 gen wrg rns als) ++ ((wH a0 d0 sz mo) ++ ((wO cL o0 og) ++ fr)))) 1 6 := by
  refine ofH (cc := b_L_run) (maxL := 8) (ret := (some .int)) (hh := [(0, 13, 16, 19)]) (by decide) rfl (Nat.le_of_ble_eq_true rfl) ?_
  intro p e s m below meth c A ls H Q hQ hx hb hr hlocks htab hts hown hml hP hK hD hS hA hl hE hN hAN hNC
  have hl : lv_has ls 8 [(0, .ref x0), (1, .int bi), (2, .long x), (4, .long y), (6, .ref o0)] := hl
  have hown : s.vm.findClass R_L = some m.cls := hown
  have ht : ∀ w ∈ BIG, w.before _ s = true := fun w h => hts w (List.mem_cons_of_mem _ h)
  refine lv_aload hx hb d_L_run_0 (lv_at hl 4 rfl) ?_
  refine lv_iconst (v := 0) hx hb d_L_run_2 (by decide) ?_
  refine lv_aload_n hx hb d_L_run_3 rfl (lv_at hl 0 rfl) ?_
  refine lv_iload_n hx hb d_L_run_4 rfl (lv_at hl 1 rfl) ?_
  refine lv_lload_n hx hb d_L_run_5 rfl (lv_at hl 2 rfl) ?_
  refine lv_lload hx hb d_L_run_6 (lv_at hl 3 rfl) ?_
  have hAi := A_in hD hS hA
  refine goT (N := N) (runT (As := [.int bi, .long x, .long y]) (rest := [.int 0, .ref o0]) ⟨hx, hb, hml, hown, hts⟩ (c_M_runX l D cI cL cO N t0 mi hl0 x0 lim a0 k0 u0 v0 t1 gen wrg rns als d0 sz mo ((wO cL o0 og) ++ fr) bi x y hbad H.size) (cwV 3 hts (gBIG (m4 k_ml_L_43 k_im_M_run k_sel_M_run k_ini_M) k_co_M_run) rfl rfl rfl (by decide +kernel) ⟨Nat.le_of_ble_eq_true rfl, Nat.le_of_ble_eq_true rfl⟩) ⟨PX.bl, va_recv hK.1 hP (ci := 3) (q0 := 0) rfl rfl, PX.pre hP hD hK hE hS hAN hN⟩ rfl rfl hl.1 rfl (lv_room (Nat.le_of_ble_eq_true rfl)) d_L_run_8 ⟨Nat.le_of_ble_eq_true rfl, Nat.le_of_ble_eq_true rfl⟩) hS hAi hown ht hNC hE.1 [] (0, 13, 16, 19) [] htab (fun y hy => absurd hy List.not_mem_nil) ⟨⟨by decide, by decide⟩, by decide, klc_19⟩ kcc_X (fun ax H locs hq hS => ?_)
  obtain ⟨u, hP, hD⟩ := hq
  have hD := hD.weaken (fun _ q _ h => hAi q.1 h)
  have hP : va_P D vwCl ((wX x0 lim a0 k0 u0 v0 t1 gen wrg rns als) ++ ((wH a0 d0 sz mo) ++ ((wO cL o0 og) ++ fr))) H := hP
  have hD : va_D A ((wX x0 lim a0 k0 u0 v0 t1 gen wrg rns als) ++ ((wH a0 d0 sz mo) ++ ((wO cL o0 og) ++ fr))) := hD
  refine lv_astore (lv' := [(7, .ref ax), (0, .ref x0), (1, .int bi), (2, .long x), (4, .long y), (6, .ref o0)]) hx hb d_L_run_16 hl (by decide) rfl (fun ls hl => ?_)
  refine lv_iconst (v := 1) hx hb d_L_run_18 (by decide) ?_
  refine W.widen (k := 1) (n := 6) (by omega) (by omega) ?_
  rw [hQ]; exact retMi (w1 := fun u : Unit => ((wX x0 lim a0 k0 u0 v0 t1 gen wrg rns als) ++ ((wH a0 d0 sz mo) ++ ((wO cL o0 og) ++ fr)))) () hx hb hr hlocks hP hD hS rfl d_L_run_19

abbrev w_L_register : List Cond := .codeWith y_L_register b_L_register 4 (some .int) [(0, 8, 11, 19)] :: BIG
abbrev rm_L_register : Room := { frames := 9, cells := 1, slots := 6, locals := 330 }
set_option maxHeartbeats 1000000 in
set_option maxRecDepth 100000 in
theorem c_L_register (l : Launch) (D : va_G) (cI cL cO : ClassId) (N t0 mi : Nat) (x0 : Nat) (lim : Int32) (a0 : Nat) (k0 : Nat) (u0 : Nat) (v0 : Nat) (t1 : Nat) (gen : Int32) (wrg : Int32) (rns : Int32) (als : Int32) (u1 : Nat) (u2 : Nat) (hg : Int32) (su : Int32) (en : Int32) (bb : Int32) (g : FL) (o0 : Nat) (og : FL) (fr : va_W) (i : Int32) (v1 : ¬ isReg i = 0) : CHi l y_L_register w_L_register rm_L_register D cI cL cO N t0 mi [.ref x0, .int i, .ref o0] ((wX x0 lim a0 k0 u0 v0 t1 gen wrg rns als) ++ ((wU u0 u1 u2 hg su en bb) ++ ((wL4 cL u1 g) ++ ((wO cL o0 og) ++ fr)))) (fun (r : Int32) (u : FL) => r = 0 ∧ u 0 = (ldF g i)) (fun u : FL => ((wX x0 lim a0 k0 u0 v0 t1 gen wrg rns als) ++ ((wU u0 u1 u2 hg su en bb) ++ ((wL4 cL u1 g) ++ ((wO cL o0 u) ++ fr))))) 1 6 := by
  refine ofH (cc := b_L_register) (maxL := 4) (ret := (some .int)) (hh := [(0, 8, 11, 19)]) (by decide) rfl (Nat.le_of_ble_eq_true rfl) ?_
  intro p e s m below meth c A ls H Q hQ hx hb hr hlocks htab hts hown hml hP hK hD hS hA hl hE hN hAN hNC
  have hl : lv_has ls 4 [(0, .ref x0), (1, .int i), (2, .ref o0)] := hl
  have hown : s.vm.findClass R_L = some m.cls := hown
  have ht : ∀ w ∈ BIG, w.before _ s = true := fun w h => hts w (List.mem_cons_of_mem _ h)
  refine lv_aload_n hx hb d_L_register_0 rfl (lv_at hl 2 rfl) ?_
  refine lv_iconst (v := 0) hx hb d_L_register_1 (by decide) ?_
  refine lv_aload_n hx hb d_L_register_2 rfl (lv_at hl 0 rfl) ?_
  refine lv_iload_n hx hb d_L_register_3 rfl (lv_at hl 1 rfl) ?_
  refine goRl (va_runV (As := [.int i]) (rest := [.int 0, .ref o0]) ⟨hx, hb, hml, hown, hts⟩ (c_M_register l D cI cL cO x0 lim a0 k0 u0 v0 t1 gen wrg rns als u1 u2 hg su en bb g i v1) (cwV 1 hts (gBIG (m4 k_ml_L_47 k_im_M_register k_sel_M_register k_ini_M) k_co_M_register) rfl rfl rfl (by decide +kernel) ⟨Nat.le_of_ble_eq_true rfl, Nat.le_of_ble_eq_true rfl⟩) ⟨PR.bl, va_recv hK.1 (P_app.mpr ⟨(P_app.mp hP).1, (P_app.mpr ⟨(P_app.mp (P_app.mp hP).2).1, (P_app.mp (P_app.mp (P_app.mp hP).2).2).1⟩)⟩) (ci := 3) (q0 := 0) rfl rfl, PR.pre (P_app.mpr ⟨(P_app.mp hP).1, (P_app.mpr ⟨(P_app.mp (P_app.mp hP).2).1, (P_app.mp (P_app.mp (P_app.mp hP).2).2).1⟩)⟩) hK⟩ rfl rfl hl.1 rfl (lv_room (Nat.le_of_ble_eq_true rfl)) d_L_register_4 ⟨Nat.le_of_ble_eq_true rfl, Nat.le_of_ble_eq_true rfl⟩) ?_
  refine va_last hx hb hK.1 hP hD hS 3 1 rfl rfl (by unfold vp_in; decide) d_L_register_7 (fun H locs hP hD hS => ?_)
  have hP : va_P D vwCl ((wX x0 lim a0 k0 u0 v0 t1 gen wrg rns als) ++ ((wU u0 u1 u2 hg su en bb) ++ ((wL4 cL u1 g) ++ ((wO cL o0 (vp_updL og (0 : Int32).toNatClampNeg (ldF g i))) ++ fr)))) H := hP
  have hD : va_D A ((wX x0 lim a0 k0 u0 v0 t1 gen wrg rns als) ++ ((wU u0 u1 u2 hg su en bb) ++ ((wL4 cL u1 g) ++ ((wO cL o0 (vp_updL og (0 : Int32).toNatClampNeg (ldF g i))) ++ fr)))) := hD
  refine lv_goto (tgt := 14) hx hb d_L_register_8 (by decide) ?_
  refine lv_iconst (v := 0) hx hb d_L_register_14 (by decide) ?_
  refine W.widen (k := 1) (n := 6) (by omega) (by omega) ?_
  rw [hQ]; exact retMi (w1 := fun u : FL => ((wX x0 lim a0 k0 u0 v0 t1 gen wrg rns als) ++ ((wU u0 u1 u2 hg su en bb) ++ ((wL4 cL u1 g) ++ ((wO cL o0 u) ++ fr))))) (vp_updL og (0 : Int32).toNatClampNeg (ldF g i)) hx hb hr hlocks hP hD hS ⟨rfl, (og0 (f := og))⟩ d_L_register_15

set_option maxHeartbeats 1000000 in
set_option maxRecDepth 100000 in
theorem c_L_registerX (l : Launch) (D : va_G) (cI cL cO : ClassId) (N t0 mi : Nat) (hl0 : l.stackTraces = false) (x0 : Nat) (lim : Int32) (a0 : Nat) (k0 : Nat) (u0 : Nat) (v0 : Nat) (t1 : Nat) (gen : Int32) (wrg : Int32) (rns : Int32) (als : Int32) (o0 : Nat) (og : FL) (fr : va_W) (i : Int32) (v1 : isReg i = 0) : CHi l y_L_register w_L_register rm_L_register D cI cL cO N t0 mi [.ref x0, .int i, .ref o0] ((wX x0 lim a0 k0 u0 v0 t1 gen wrg rns als) ++ ((wO cL o0 og) ++ fr)) (fun (r : Int32) (u : Unit) => r = 1) (fun u : Unit => ((wX x0 lim a0 k0 u0 v0 t1 gen wrg rns als) ++ ((wO cL o0 og) ++ fr))) 1 6 := by
  refine ofH (cc := b_L_register) (maxL := 4) (ret := (some .int)) (hh := [(0, 8, 11, 19)]) (by decide) rfl (Nat.le_of_ble_eq_true rfl) ?_
  intro p e s m below meth c A ls H Q hQ hx hb hr hlocks htab hts hown hml hP hK hD hS hA hl hE hN hAN hNC
  have hl : lv_has ls 4 [(0, .ref x0), (1, .int i), (2, .ref o0)] := hl
  have hown : s.vm.findClass R_L = some m.cls := hown
  have ht : ∀ w ∈ BIG, w.before _ s = true := fun w h => hts w (List.mem_cons_of_mem _ h)
  refine lv_aload_n hx hb d_L_register_0 rfl (lv_at hl 2 rfl) ?_
  refine lv_iconst (v := 0) hx hb d_L_register_1 (by decide) ?_
  refine lv_aload_n hx hb d_L_register_2 rfl (lv_at hl 0 rfl) ?_
  refine lv_iload_n hx hb d_L_register_3 rfl (lv_at hl 1 rfl) ?_
  have hAi := A_in hD hS hA
  refine goT (N := N) (runT (As := [.int i]) (rest := [.int 0, .ref o0]) ⟨hx, hb, hml, hown, hts⟩ (c_M_registerX l D cI cL cO N t0 mi hl0 x0 lim a0 k0 u0 v0 t1 gen wrg rns als ((wO cL o0 og) ++ fr) i v1 H.size) (cwV 1 hts (gBIG (m4 k_ml_L_47 k_im_M_register k_sel_M_register k_ini_M) k_co_M_register) rfl rfl rfl (by decide +kernel) ⟨Nat.le_of_ble_eq_true rfl, Nat.le_of_ble_eq_true rfl⟩) ⟨PX.bl, va_recv hK.1 hP (ci := 3) (q0 := 0) rfl rfl, PX.pre hP hD hK hE hS hAN hN⟩ rfl rfl hl.1 rfl (lv_room (Nat.le_of_ble_eq_true rfl)) d_L_register_4 ⟨Nat.le_of_ble_eq_true rfl, Nat.le_of_ble_eq_true rfl⟩) hS hAi hown ht hNC hE.1 [] (0, 8, 11, 19) [] htab (fun y hy => absurd hy List.not_mem_nil) ⟨⟨by decide, by decide⟩, by decide, klc_19⟩ kcc_X (fun ax H locs hq hS => ?_)
  obtain ⟨u, hP, hD⟩ := hq
  have hD := hD.weaken (fun _ q _ h => hAi q.1 h)
  have hP : va_P D vwCl ((wX x0 lim a0 k0 u0 v0 t1 gen wrg rns als) ++ ((wO cL o0 og) ++ fr)) H := hP
  have hD : va_D A ((wX x0 lim a0 k0 u0 v0 t1 gen wrg rns als) ++ ((wO cL o0 og) ++ fr)) := hD
  refine lv_astore_n (lv' := [(3, .ref ax), (0, .ref x0), (1, .int i), (2, .ref o0)]) hx hb d_L_register_11 rfl hl (by decide) rfl (fun ls hl => ?_)
  refine lv_iconst (v := 1) hx hb d_L_register_12 (by decide) ?_
  refine W.widen (k := 1) (n := 6) (by omega) (by omega) ?_
  rw [hQ]; exact retMi (w1 := fun u : Unit => ((wX x0 lim a0 k0 u0 v0 t1 gen wrg rns als) ++ ((wO cL o0 og) ++ fr))) () hx hb hr hlocks hP hD hS rfl d_L_register_13

abbrev w_L_ended : List Cond := .codeWith y_L_ended b_L_ended 4 (some .int) [(0, 9, 12, 19)] :: BIG
abbrev rm_L_ended : Room := { frames := 9, cells := 1, slots := 6, locals := 330 }
set_option maxHeartbeats 1000000 in
set_option maxRecDepth 100000 in
theorem c_L_ended (l : Launch) (D : va_G) (cI cL cO : ClassId) (N t0 mi : Nat) (x0 : Nat) (lim : Int32) (a0 : Nat) (k0 : Nat) (u0 : Nat) (v0 : Nat) (t1 : Nat) (gen : Int32) (wrg : Int32) (rns : Int32) (als : Int32) (u1 : Nat) (u2 : Nat) (hg : Int32) (su : Int32) (en : Int32) (bb : Int32) (o0 : Nat) (og : FL) (fr : va_W) (w : Int32) (v1 : w = 0 ∨ w = 1) : CHi l y_L_ended w_L_ended rm_L_ended D cI cL cO N t0 mi [.ref x0, .int w, .ref o0] ((wX x0 lim a0 k0 u0 v0 t1 gen wrg rns als) ++ ((wU u0 u1 u2 hg su en bb) ++ ((wO cL o0 og) ++ fr))) (fun (r : Int32) (u : FL) => r = 0 ∧ u 0 = ((edM w en bb)).toInt64) (fun u : FL => ((wX x0 lim a0 k0 u0 v0 t1 gen wrg rns als) ++ ((wU u0 u1 u2 hg su en bb) ++ ((wO cL o0 u) ++ fr)))) 1 6 := by
  refine ofH (cc := b_L_ended) (maxL := 4) (ret := (some .int)) (hh := [(0, 9, 12, 19)]) (by decide) rfl (Nat.le_of_ble_eq_true rfl) ?_
  intro p e s m below meth c A ls H Q hQ hx hb hr hlocks htab hts hown hml hP hK hD hS hA hl hE hN hAN hNC
  have hl : lv_has ls 4 [(0, .ref x0), (1, .int w), (2, .ref o0)] := hl
  have hown : s.vm.findClass R_L = some m.cls := hown
  have ht : ∀ w ∈ BIG, w.before _ s = true := fun w h => hts w (List.mem_cons_of_mem _ h)
  refine lv_aload_n hx hb d_L_ended_0 rfl (lv_at hl 2 rfl) ?_
  refine lv_iconst (v := 0) hx hb d_L_ended_1 (by decide) ?_
  refine lv_aload_n hx hb d_L_ended_2 rfl (lv_at hl 0 rfl) ?_
  refine lv_iload_n hx hb d_L_ended_3 rfl (lv_at hl 1 rfl) ?_
  refine goRi (va_runV (As := [.int w]) (rest := [.int 0, .ref o0]) ⟨hx, hb, hml, hown, hts⟩ (c_M_ended l D cI cL cO x0 lim a0 k0 u0 v0 t1 gen wrg rns als u1 u2 hg su en bb w v1) (cwV 1 hts (gBIG (m4 k_ml_L_51 k_im_M_ended k_sel_M_ended k_ini_M) k_co_M_ended) rfl rfl rfl (by decide +kernel) ⟨Nat.le_of_ble_eq_true rfl, Nat.le_of_ble_eq_true rfl⟩) ⟨PR.bl, va_recv hK.1 (P_app.mpr ⟨(P_app.mp hP).1, (P_app.mp (P_app.mp hP).2).1⟩) (ci := 3) (q0 := 0) rfl rfl, PR.pre (P_app.mpr ⟨(P_app.mp hP).1, (P_app.mp (P_app.mp hP).2).1⟩) hK⟩ rfl rfl hl.1 rfl (lv_room (Nat.le_of_ble_eq_true rfl)) d_L_ended_4 ⟨Nat.le_of_ble_eq_true rfl, Nat.le_of_ble_eq_true rfl⟩) ?_
  refine lv_i2l (v := (edM w en bb).toInt64) hx hb d_L_ended_7 rfl ?_
  refine va_last hx hb hK.1 hP hD hS 2 1 rfl rfl (by unfold vp_in; decide) d_L_ended_8 (fun H locs hP hD hS => ?_)
  have hP : va_P D vwCl ((wX x0 lim a0 k0 u0 v0 t1 gen wrg rns als) ++ ((wU u0 u1 u2 hg su en bb) ++ ((wO cL o0 (vp_updL og (0 : Int32).toNatClampNeg ((edM w en bb).toInt64))) ++ fr))) H := hP
  have hD : va_D A ((wX x0 lim a0 k0 u0 v0 t1 gen wrg rns als) ++ ((wU u0 u1 u2 hg su en bb) ++ ((wO cL o0 (vp_updL og (0 : Int32).toNatClampNeg ((edM w en bb).toInt64))) ++ fr))) := hD
  refine lv_goto (tgt := 15) hx hb d_L_ended_9 (by decide) ?_
  refine lv_iconst (v := 0) hx hb d_L_ended_15 (by decide) ?_
  refine W.widen (k := 1) (n := 6) (by omega) (by omega) ?_
  rw [hQ]; exact retMi (w1 := fun u : FL => ((wX x0 lim a0 k0 u0 v0 t1 gen wrg rns als) ++ ((wU u0 u1 u2 hg su en bb) ++ ((wO cL o0 u) ++ fr)))) (vp_updL og (0 : Int32).toNatClampNeg ((edM w en bb).toInt64)) hx hb hr hlocks hP hD hS ⟨rfl, (og0 (f := og))⟩ d_L_ended_16

set_option maxHeartbeats 1000000 in
set_option maxRecDepth 100000 in
theorem c_L_endedX (l : Launch) (D : va_G) (cI cL cO : ClassId) (N t0 mi : Nat) (hl0 : l.stackTraces = false) (x0 : Nat) (lim : Int32) (a0 : Nat) (k0 : Nat) (u0 : Nat) (v0 : Nat) (t1 : Nat) (gen : Int32) (wrg : Int32) (rns : Int32) (als : Int32) (o0 : Nat) (og : FL) (fr : va_W) (w : Int32) (v1 : ¬ (w = 0 ∨ w = 1)) : CHi l y_L_ended w_L_ended rm_L_ended D cI cL cO N t0 mi [.ref x0, .int w, .ref o0] ((wX x0 lim a0 k0 u0 v0 t1 gen wrg rns als) ++ ((wO cL o0 og) ++ fr)) (fun (r : Int32) (u : Unit) => r = 1) (fun u : Unit => ((wX x0 lim a0 k0 u0 v0 t1 gen wrg rns als) ++ ((wO cL o0 og) ++ fr))) 1 6 := by
  refine ofH (cc := b_L_ended) (maxL := 4) (ret := (some .int)) (hh := [(0, 9, 12, 19)]) (by decide) rfl (Nat.le_of_ble_eq_true rfl) ?_
  intro p e s m below meth c A ls H Q hQ hx hb hr hlocks htab hts hown hml hP hK hD hS hA hl hE hN hAN hNC
  have hl : lv_has ls 4 [(0, .ref x0), (1, .int w), (2, .ref o0)] := hl
  have hown : s.vm.findClass R_L = some m.cls := hown
  have ht : ∀ w ∈ BIG, w.before _ s = true := fun w h => hts w (List.mem_cons_of_mem _ h)
  refine lv_aload_n hx hb d_L_ended_0 rfl (lv_at hl 2 rfl) ?_
  refine lv_iconst (v := 0) hx hb d_L_ended_1 (by decide) ?_
  refine lv_aload_n hx hb d_L_ended_2 rfl (lv_at hl 0 rfl) ?_
  refine lv_iload_n hx hb d_L_ended_3 rfl (lv_at hl 1 rfl) ?_
  have hAi := A_in hD hS hA
  refine goT (N := N) (runT (As := [.int w]) (rest := [.int 0, .ref o0]) ⟨hx, hb, hml, hown, hts⟩ (c_M_endedX l D cI cL cO N t0 mi hl0 x0 lim a0 k0 u0 v0 t1 gen wrg rns als ((wO cL o0 og) ++ fr) w v1 H.size) (cwV 1 hts (gBIG (m4 k_ml_L_51 k_im_M_ended k_sel_M_ended k_ini_M) k_co_M_ended) rfl rfl rfl (by decide +kernel) ⟨Nat.le_of_ble_eq_true rfl, Nat.le_of_ble_eq_true rfl⟩) ⟨PX.bl, va_recv hK.1 hP (ci := 3) (q0 := 0) rfl rfl, PX.pre hP hD hK hE hS hAN hN⟩ rfl rfl hl.1 rfl (lv_room (Nat.le_of_ble_eq_true rfl)) d_L_ended_4 ⟨Nat.le_of_ble_eq_true rfl, Nat.le_of_ble_eq_true rfl⟩) hS hAi hown ht hNC hE.1 [] (0, 9, 12, 19) [] htab (fun y hy => absurd hy List.not_mem_nil) ⟨⟨by decide, by decide⟩, by decide, klc_19⟩ kcc_X (fun ax H locs hq hS => ?_)
  obtain ⟨u, hP, hD⟩ := hq
  have hD := hD.weaken (fun _ q _ h => hAi q.1 h)
  have hP : va_P D vwCl ((wX x0 lim a0 k0 u0 v0 t1 gen wrg rns als) ++ ((wO cL o0 og) ++ fr)) H := hP
  have hD : va_D A ((wX x0 lim a0 k0 u0 v0 t1 gen wrg rns als) ++ ((wO cL o0 og) ++ fr)) := hD
  refine lv_astore_n (lv' := [(3, .ref ax), (0, .ref x0), (1, .int w), (2, .ref o0)]) hx hb d_L_ended_12 rfl hl (by decide) rfl (fun ls hl => ?_)
  refine lv_iconst (v := 1) hx hb d_L_ended_13 (by decide) ?_
  refine W.widen (k := 1) (n := 6) (by omega) (by omega) ?_
  rw [hQ]; exact retMi (w1 := fun u : Unit => ((wX x0 lim a0 k0 u0 v0 t1 gen wrg rns als) ++ ((wO cL o0 og) ++ fr))) () hx hb hr hlocks hP hD hS rfl d_L_ended_14

abbrev w_L_same : List Cond := .codeWith y_L_same b_L_same 8 (some .int) [(0, 20, 23, 19), (0, 20, 27, 31)] :: BIG
abbrev rm_L_same : Room := { frames := 9, cells := 1, slots := 6, locals := 330 }
set_option maxHeartbeats 1000000 in
set_option maxRecDepth 100000 in
theorem c_L_same (l : Launch) (D : va_G) (cI cL cO : ClassId) (N t0 mi : Nat) (x0 : Nat) (lim : Int32) (a0 : Nat) (k0 : Nat) (u0 : Nat) (v0 : Nat) (t1 : Nat) (gen : Int32) (wrg : Int32) (rns : Int32) (als : Int32) (d0 : Nat) (sz : Int32) (mo : Int32) (cap : Nat) (rf : Nat → Option Nat) (h0 : Nat) (q1 : Nat) (q2 : Nat) (q3 : Nat) (q4 : Nat) (q5 : Nat) (o : Fn) (f : Fn) (ee : Fn) (t : Fn) (b : Fn) (ic : Int32) (bc : Int32) (sa : Int32) (gn : Int32) (k1 : Nat) (dd : Fn) (v1 : Nat) (v2 : Nat) (hg1 : Int32) (su1 : Int32) (en1 : Int32) (bb1 : Int32) (g1 : FL) (t2 : Nat) (t3 : Nat) (hg2 : Int32) (su2 : Int32) (en2 : Int32) (bb2 : Int32) (g2 : FL) (pl2 : FL) (o0 : Nat) (og : FL) (fr : va_W) (bi : Int32) (x : Int64) (y : Int64) (hi0 : ¬ bi < 0) (hi1 : bi < sz) (hi2 : vp_in bi cap) (hi3 : rf bi.toNatClampNeg = some h0) (hic : ¬ ic < 0) (w1 : ¬ sa = 0) (w2 : vdF b bc = 0) : CHi l y_L_same w_L_same rm_L_same D cI cL cO N t0 mi [.ref x0, .int bi, .long x, .long y, .ref o0] ((wX x0 lim a0 k0 u0 v0 t1 gen wrg rns als) ++ ((wH a0 d0 sz mo) ++ ((wR cO d0 cap rf) ++ ((wB cI h0 q1 q2 q3 q4 q5 o f ee t b ic bc sa gn) ++ ((wK k0 k1) ++ ((wI3 cI k1 dd) ++ ((wU v0 v1 v2 hg1 su1 en1 bb1) ++ ((wL4 cL v1 g1) ++ ((wU t1 t2 t3 hg2 su2 en2 bb2) ++ ((wL4 cL t2 g2) ++ ((wL4 cL t3 pl2) ++ ((wO cL o0 og) ++ fr)))))))))))) (fun (r : Int32) (u : (Fn × Int32 × Int32 × Int32 × Int32 × FL × Int32 × Int32 × Int32 × Int32 × FL × FL) × FL) => r = 0 ∧ ∃ rr : Int32, (rr = smM o f ee b ic bc x y pl2) ∧ u.2 0 = (if rr = 0 then 0 else 1)) (fun u : (Fn × Int32 × Int32 × Int32 × Int32 × FL × Int32 × Int32 × Int32 × Int32 × FL × FL) × FL => ((wX x0 lim a0 k0 u0 v0 t1 gen wrg rns als) ++ ((wH a0 d0 sz mo) ++ ((wR cO d0 cap rf) ++ ((wB cI h0 q1 q2 q3 q4 q5 o f ee t b ic bc sa gn) ++ ((wK k0 k1) ++ ((wI3 cI k1 u.1.1) ++ ((wU v0 v1 v2 u.1.2.1 u.1.2.2.1 u.1.2.2.2.1 u.1.2.2.2.2.1) ++ ((wL4 cL v1 u.1.2.2.2.2.2.1) ++ ((wU t1 t2 t3 u.1.2.2.2.2.2.2.1 u.1.2.2.2.2.2.2.2.1 u.1.2.2.2.2.2.2.2.2.1 u.1.2.2.2.2.2.2.2.2.2.1) ++ ((wL4 cL t2 u.1.2.2.2.2.2.2.2.2.2.2.1) ++ ((wL4 cL t3 u.1.2.2.2.2.2.2.2.2.2.2.2) ++ ((wO cL o0 u.2) ++ fr))))))))))))) 1 6 := by
  refine ofH (cc := b_L_same) (maxL := 8) (ret := (some .int)) (hh := [(0, 20, 23, 19), (0, 20, 27, 31)]) (by decide) rfl (Nat.le_of_ble_eq_true rfl) ?_
  intro p e s m below meth c A ls H Q hQ hx hb hr hlocks htab hts hown hml hP hK hD hS hA hl hE hN hAN hNC
  have hl : lv_has ls 8 [(0, .ref x0), (1, .int bi), (2, .long x), (4, .long y), (6, .ref o0)] := hl
  have hown : s.vm.findClass R_L = some m.cls := hown
  have ht : ∀ w ∈ BIG, w.before _ s = true := fun w h => hts w (List.mem_cons_of_mem _ h)
  refine lv_aload hx hb d_L_same_0 (lv_at hl 4 rfl) ?_
  refine lv_iconst (v := 0) hx hb d_L_same_2 (by decide) ?_
  refine lv_aload_n hx hb d_L_same_3 rfl (lv_at hl 0 rfl) ?_
  refine lv_iload_n hx hb d_L_same_4 rfl (lv_at hl 1 rfl) ?_
  refine lv_lload_n hx hb d_L_same_5 rfl (lv_at hl 2 rfl) ?_
  refine lv_lload hx hb d_L_same_6 (lv_at hl 3 rfl) ?_
  refine goMi (va_runV (As := [.int bi, .long x, .long y]) (rest := [.int 0, .ref o0]) ⟨hx, hb, hml, hown, hts⟩ (c_M_same l D cI cL cO x0 lim a0 k0 u0 v0 t1 gen wrg rns als d0 sz mo cap rf h0 q1 q2 q3 q4 q5 o f ee t b ic bc sa gn k1 dd v1 v2 hg1 su1 en1 bb1 g1 t2 t3 hg2 su2 en2 bb2 g2 pl2 ((wO cL o0 og) ++ fr) bi x y hi0 hi1 hi2 hi3 hic w1 w2 H.size) (cwV 3 hts (gBIG (m4 k_ml_L_54 k_im_M_same k_sel_M_same k_ini_M) k_co_M_same) rfl rfl rfl (by decide +kernel) ⟨Nat.le_of_ble_eq_true rfl, Nat.le_of_ble_eq_true rfl⟩) ⟨PM.bl, va_recv hK.1 hP (ci := 3) (q0 := 0) rfl rfl, PM.pre hP hD hK⟩ rfl rfl hl.1 rfl (lv_room (Nat.le_of_ble_eq_true rfl)) d_L_same_8 ⟨Nat.le_of_ble_eq_true rfl, Nat.le_of_ble_eq_true rfl⟩) hD hS hA (fun r_8 u H locs hw hP hD hS => ?_)
  obtain ⟨dd_8, hg1_8, su1_8, en1_8, bb1_8, g1_8, hg2_8, su2_8, en2_8, bb2_8, g2_8, pl2_8⟩ := u
  have e_8 : r_8 = smM o f ee b ic bc x y pl2 := hw
  have hP : va_P D vwCl ((wX x0 lim a0 k0 u0 v0 t1 gen wrg rns als) ++ ((wH a0 d0 sz mo) ++ ((wR cO d0 cap rf) ++ ((wB cI h0 q1 q2 q3 q4 q5 o f ee t b ic bc sa gn) ++ ((wK k0 k1) ++ ((wI3 cI k1 dd_8) ++ ((wU v0 v1 v2 hg1_8 su1_8 en1_8 bb1_8) ++ ((wL4 cL v1 g1_8) ++ ((wU t1 t2 t3 hg2_8 su2_8 en2_8 bb2_8) ++ ((wL4 cL t2 g2_8) ++ ((wL4 cL t3 pl2_8) ++ ((wO cL o0 og) ++ fr)))))))))))) H := hP
  have hD : va_D A ((wX x0 lim a0 k0 u0 v0 t1 gen wrg rns als) ++ ((wH a0 d0 sz mo) ++ ((wR cO d0 cap rf) ++ ((wB cI h0 q1 q2 q3 q4 q5 o f ee t b ic bc sa gn) ++ ((wK k0 k1) ++ ((wI3 cI k1 dd_8) ++ ((wU v0 v1 v2 hg1_8 su1_8 en1_8 bb1_8) ++ ((wL4 cL v1 g1_8) ++ ((wU t1 t2 t3 hg2_8 su2_8 en2_8 bb2_8) ++ ((wL4 cL t2 g2_8) ++ ((wL4 cL t3 pl2_8) ++ ((wO cL o0 og) ++ fr)))))))))))) := hD
  refine lv_if_eq (tgt := 18) hx hb d_L_same_11 (by decide) (fun c_11 => ?_) (fun c_11 => ?_)
  · refine lv_lconst (v := 0) hx hb d_L_same_18 (by decide) ?_
    refine va_last hx hb hK.1 hP hD hS 16 1 rfl rfl (by unfold vp_in; decide) d_L_same_19 (fun H locs hP hD hS => ?_)
    have hP : va_P D vwCl ((wX x0 lim a0 k0 u0 v0 t1 gen wrg rns als) ++ ((wH a0 d0 sz mo) ++ ((wR cO d0 cap rf) ++ ((wB cI h0 q1 q2 q3 q4 q5 o f ee t b ic bc sa gn) ++ ((wK k0 k1) ++ ((wI3 cI k1 dd_8) ++ ((wU v0 v1 v2 hg1_8 su1_8 en1_8 bb1_8) ++ ((wL4 cL v1 g1_8) ++ ((wU t1 t2 t3 hg2_8 su2_8 en2_8 bb2_8) ++ ((wL4 cL t2 g2_8) ++ ((wL4 cL t3 pl2_8) ++ ((wO cL o0 (vp_updL og (0 : Int32).toNatClampNeg 0)) ++ fr)))))))))))) H := hP
    have hD : va_D A ((wX x0 lim a0 k0 u0 v0 t1 gen wrg rns als) ++ ((wH a0 d0 sz mo) ++ ((wR cO d0 cap rf) ++ ((wB cI h0 q1 q2 q3 q4 q5 o f ee t b ic bc sa gn) ++ ((wK k0 k1) ++ ((wI3 cI k1 dd_8) ++ ((wU v0 v1 v2 hg1_8 su1_8 en1_8 bb1_8) ++ ((wL4 cL v1 g1_8) ++ ((wU t1 t2 t3 hg2_8 su2_8 en2_8 bb2_8) ++ ((wL4 cL t2 g2_8) ++ ((wL4 cL t3 pl2_8) ++ ((wO cL o0 (vp_updL og (0 : Int32).toNatClampNeg 0)) ++ fr)))))))))))) := hD
    refine lv_goto (tgt := 31) hx hb d_L_same_20 (by decide) ?_
    refine lv_iconst (v := 0) hx hb d_L_same_31 (by decide) ?_
    refine W.widen (k := 1) (n := 6) (by omega) (by omega) ?_
    rw [hQ]; exact retMi (w1 := fun u : (Fn × Int32 × Int32 × Int32 × Int32 × FL × Int32 × Int32 × Int32 × Int32 × FL × FL) × FL => ((wX x0 lim a0 k0 u0 v0 t1 gen wrg rns als) ++ ((wH a0 d0 sz mo) ++ ((wR cO d0 cap rf) ++ ((wB cI h0 q1 q2 q3 q4 q5 o f ee t b ic bc sa gn) ++ ((wK k0 k1) ++ ((wI3 cI k1 u.1.1) ++ ((wU v0 v1 v2 u.1.2.1 u.1.2.2.1 u.1.2.2.2.1 u.1.2.2.2.2.1) ++ ((wL4 cL v1 u.1.2.2.2.2.2.1) ++ ((wU t1 t2 t3 u.1.2.2.2.2.2.2.1 u.1.2.2.2.2.2.2.2.1 u.1.2.2.2.2.2.2.2.2.1 u.1.2.2.2.2.2.2.2.2.2.1) ++ ((wL4 cL t2 u.1.2.2.2.2.2.2.2.2.2.2.1) ++ ((wL4 cL t3 u.1.2.2.2.2.2.2.2.2.2.2.2) ++ ((wO cL o0 u.2) ++ fr))))))))))))) ((dd_8, hg1_8, su1_8, en1_8, bb1_8, g1_8, hg2_8, su2_8, en2_8, bb2_8, g2_8, pl2_8), (vp_updL og (0 : Int32).toNatClampNeg 0)) hx hb hr hlocks hP hD hS ⟨rfl, _, e_8, (by rw [if_pos c_11]; exact og0 (f := og))⟩ d_L_same_32
  · refine lv_lconst (v := 1) hx hb d_L_same_14 (by decide) ?_
    refine lv_goto (tgt := 19) hx hb d_L_same_15 (by decide) ?_
    refine va_last hx hb hK.1 hP hD hS 16 1 rfl rfl (by unfold vp_in; decide) d_L_same_19 (fun H locs hP hD hS => ?_)
    have hP : va_P D vwCl ((wX x0 lim a0 k0 u0 v0 t1 gen wrg rns als) ++ ((wH a0 d0 sz mo) ++ ((wR cO d0 cap rf) ++ ((wB cI h0 q1 q2 q3 q4 q5 o f ee t b ic bc sa gn) ++ ((wK k0 k1) ++ ((wI3 cI k1 dd_8) ++ ((wU v0 v1 v2 hg1_8 su1_8 en1_8 bb1_8) ++ ((wL4 cL v1 g1_8) ++ ((wU t1 t2 t3 hg2_8 su2_8 en2_8 bb2_8) ++ ((wL4 cL t2 g2_8) ++ ((wL4 cL t3 pl2_8) ++ ((wO cL o0 (vp_updL og (0 : Int32).toNatClampNeg 1)) ++ fr)))))))))))) H := hP
    have hD : va_D A ((wX x0 lim a0 k0 u0 v0 t1 gen wrg rns als) ++ ((wH a0 d0 sz mo) ++ ((wR cO d0 cap rf) ++ ((wB cI h0 q1 q2 q3 q4 q5 o f ee t b ic bc sa gn) ++ ((wK k0 k1) ++ ((wI3 cI k1 dd_8) ++ ((wU v0 v1 v2 hg1_8 su1_8 en1_8 bb1_8) ++ ((wL4 cL v1 g1_8) ++ ((wU t1 t2 t3 hg2_8 su2_8 en2_8 bb2_8) ++ ((wL4 cL t2 g2_8) ++ ((wL4 cL t3 pl2_8) ++ ((wO cL o0 (vp_updL og (0 : Int32).toNatClampNeg 1)) ++ fr)))))))))))) := hD
    refine lv_goto (tgt := 31) hx hb d_L_same_20 (by decide) ?_
    refine lv_iconst (v := 0) hx hb d_L_same_31 (by decide) ?_
    refine W.widen (k := 1) (n := 6) (by omega) (by omega) ?_
    rw [hQ]; exact retMi (w1 := fun u : (Fn × Int32 × Int32 × Int32 × Int32 × FL × Int32 × Int32 × Int32 × Int32 × FL × FL) × FL => ((wX x0 lim a0 k0 u0 v0 t1 gen wrg rns als) ++ ((wH a0 d0 sz mo) ++ ((wR cO d0 cap rf) ++ ((wB cI h0 q1 q2 q3 q4 q5 o f ee t b ic bc sa gn) ++ ((wK k0 k1) ++ ((wI3 cI k1 u.1.1) ++ ((wU v0 v1 v2 u.1.2.1 u.1.2.2.1 u.1.2.2.2.1 u.1.2.2.2.2.1) ++ ((wL4 cL v1 u.1.2.2.2.2.2.1) ++ ((wU t1 t2 t3 u.1.2.2.2.2.2.2.1 u.1.2.2.2.2.2.2.2.1 u.1.2.2.2.2.2.2.2.2.1 u.1.2.2.2.2.2.2.2.2.2.1) ++ ((wL4 cL t2 u.1.2.2.2.2.2.2.2.2.2.2.1) ++ ((wL4 cL t3 u.1.2.2.2.2.2.2.2.2.2.2.2) ++ ((wO cL o0 u.2) ++ fr))))))))))))) ((dd_8, hg1_8, su1_8, en1_8, bb1_8, g1_8, hg2_8, su2_8, en2_8, bb2_8, g2_8, pl2_8), (vp_updL og (0 : Int32).toNatClampNeg 1)) hx hb hr hlocks hP hD hS ⟨rfl, _, e_8, (by rw [if_neg c_11]; exact og0 (f := og))⟩ d_L_same_32

set_option maxHeartbeats 1000000 in
set_option maxRecDepth 100000 in
theorem c_L_sameX (l : Launch) (D : va_G) (cI cL cO : ClassId) (N t0 mi : Nat) (hl0 : l.stackTraces = false) (x0 : Nat) (lim : Int32) (a0 : Nat) (k0 : Nat) (u0 : Nat) (v0 : Nat) (t1 : Nat) (gen : Int32) (wrg : Int32) (rns : Int32) (als : Int32) (d0 : Nat) (sz : Int32) (mo : Int32) (o0 : Nat) (og : FL) (fr : va_W) (bi : Int32) (x : Int64) (y : Int64) (hbad : bi < 0 ∨ ¬ bi < sz) : CHi l y_L_same w_L_same rm_L_same D cI cL cO N t0 mi [.ref x0, .int bi, .long x, .long y, .ref o0] ((wX x0 lim a0 k0 u0 v0 t1 gen wrg rns als) ++ ((wH a0 d0 sz mo) ++ ((wO cL o0 og) ++ fr))) (fun (r : Int32) (u : Unit) => r = 1) (fun u : Unit => ((wX x0 lim a0 k0 u0 v0 t1 gen wrg rns als) ++ ((wH a0 d0 sz mo) ++ ((wO cL o0 og) ++ fr)))) 1 6 := by
  refine ofH (cc := b_L_same) (maxL := 8) (ret := (some .int)) (hh := [(0, 20, 23, 19), (0, 20, 27, 31)]) (by decide) rfl (Nat.le_of_ble_eq_true rfl) ?_
  intro p e s m below meth c A ls H Q hQ hx hb hr hlocks htab hts hown hml hP hK hD hS hA hl hE hN hAN hNC
  have hl : lv_has ls 8 [(0, .ref x0), (1, .int bi), (2, .long x), (4, .long y), (6, .ref o0)] := hl
  have hown : s.vm.findClass R_L = some m.cls := hown
  have ht : ∀ w ∈ BIG, w.before _ s = true := fun w h => hts w (List.mem_cons_of_mem _ h)
  refine lv_aload hx hb d_L_same_0 (lv_at hl 4 rfl) ?_
  refine lv_iconst (v := 0) hx hb d_L_same_2 (by decide) ?_
  refine lv_aload_n hx hb d_L_same_3 rfl (lv_at hl 0 rfl) ?_
  refine lv_iload_n hx hb d_L_same_4 rfl (lv_at hl 1 rfl) ?_
  refine lv_lload_n hx hb d_L_same_5 rfl (lv_at hl 2 rfl) ?_
  refine lv_lload hx hb d_L_same_6 (lv_at hl 3 rfl) ?_
  have hAi := A_in hD hS hA
  refine goT (N := N) (runT (As := [.int bi, .long x, .long y]) (rest := [.int 0, .ref o0]) ⟨hx, hb, hml, hown, hts⟩ (c_M_sameX l D cI cL cO N t0 mi hl0 x0 lim a0 k0 u0 v0 t1 gen wrg rns als d0 sz mo ((wO cL o0 og) ++ fr) bi x y hbad H.size) (cwV 3 hts (gBIG (m4 k_ml_L_54 k_im_M_same k_sel_M_same k_ini_M) k_co_M_same) rfl rfl rfl (by decide +kernel) ⟨Nat.le_of_ble_eq_true rfl, Nat.le_of_ble_eq_true rfl⟩) ⟨PX.bl, va_recv hK.1 hP (ci := 3) (q0 := 0) rfl rfl, PX.pre hP hD hK hE hS hAN hN⟩ rfl rfl hl.1 rfl (lv_room (Nat.le_of_ble_eq_true rfl)) d_L_same_8 ⟨Nat.le_of_ble_eq_true rfl, Nat.le_of_ble_eq_true rfl⟩) hS hAi hown ht hNC hE.1 [] (0, 20, 23, 19) [(0, 20, 27, 31)] htab (fun y hy => absurd hy List.not_mem_nil) ⟨⟨by decide, by decide⟩, by decide, klc_19⟩ kcc_X (fun ax H locs hq hS => ?_)
  obtain ⟨u, hP, hD⟩ := hq
  have hD := hD.weaken (fun _ q _ h => hAi q.1 h)
  have hP : va_P D vwCl ((wX x0 lim a0 k0 u0 v0 t1 gen wrg rns als) ++ ((wH a0 d0 sz mo) ++ ((wO cL o0 og) ++ fr))) H := hP
  have hD : va_D A ((wX x0 lim a0 k0 u0 v0 t1 gen wrg rns als) ++ ((wH a0 d0 sz mo) ++ ((wO cL o0 og) ++ fr))) := hD
  refine lv_astore (lv' := [(7, .ref ax), (0, .ref x0), (1, .int bi), (2, .long x), (4, .long y), (6, .ref o0)]) hx hb d_L_same_23 hl (by decide) rfl (fun ls hl => ?_)
  refine lv_iconst (v := 1) hx hb d_L_same_25 (by decide) ?_
  refine W.widen (k := 1) (n := 6) (by omega) (by omega) ?_
  rw [hQ]; exact retMi (w1 := fun u : Unit => ((wX x0 lim a0 k0 u0 v0 t1 gen wrg rns als) ++ ((wH a0 d0 sz mo) ++ ((wO cL o0 og) ++ fr)))) () hx hb hr hlocks hP hD hS rfl d_L_same_26

set_option maxHeartbeats 1000000 in
set_option maxRecDepth 100000 in
theorem c_L_sameS0 (l : Launch) (D : va_G) (cI cL cO : ClassId) (N t0 mi : Nat) (hl0 : l.stackTraces = false) (x0 : Nat) (lim : Int32) (a0 : Nat) (k0 : Nat) (u0 : Nat) (v0 : Nat) (t1 : Nat) (gen : Int32) (wrg : Int32) (rns : Int32) (als : Int32) (d0 : Nat) (sz : Int32) (mo : Int32) (cap : Nat) (rf : Nat → Option Nat) (h0 : Nat) (q1 : Nat) (q2 : Nat) (q3 : Nat) (q4 : Nat) (q5 : Nat) (o : Fn) (f : Fn) (ee : Fn) (t : Fn) (b : Fn) (ic : Int32) (bc : Int32) (sa : Int32) (gn : Int32) (o0 : Nat) (og : FL) (fr : va_W) (bi : Int32) (x : Int64) (y : Int64) (hi0 : ¬ bi < 0) (hi1 : bi < sz) (hi2 : vp_in bi cap) (hi3 : rf bi.toNatClampNeg = some h0) (w1 : sa = 0) : CHi l y_L_same w_L_same rm_L_same D cI cL cO N t0 mi [.ref x0, .int bi, .long x, .long y, .ref o0] ((wX x0 lim a0 k0 u0 v0 t1 gen wrg rns als) ++ ((wH a0 d0 sz mo) ++ ((wR cO d0 cap rf) ++ ((wB cI h0 q1 q2 q3 q4 q5 o f ee t b ic bc sa gn) ++ ((wO cL o0 og) ++ fr))))) (fun (r : Int32) (u : Unit) => r = 2) (fun u : Unit => ((wX x0 lim a0 k0 u0 v0 t1 gen wrg rns als) ++ ((wH a0 d0 sz mo) ++ ((wR cO d0 cap rf) ++ ((wB cI h0 q1 q2 q3 q4 q5 o f ee t b ic bc sa gn) ++ ((wO cL o0 og) ++ fr)))))) 1 6 := by
  refine ofH (cc := b_L_same) (maxL := 8) (ret := (some .int)) (hh := [(0, 20, 23, 19), (0, 20, 27, 31)]) (by decide) rfl (Nat.le_of_ble_eq_true rfl) ?_
  intro p e s m below meth c A ls H Q hQ hx hb hr hlocks htab hts hown hml hP hK hD hS hA hl hE hN hAN hNC
  have hl : lv_has ls 8 [(0, .ref x0), (1, .int bi), (2, .long x), (4, .long y), (6, .ref o0)] := hl
  have hown : s.vm.findClass R_L = some m.cls := hown
  have ht : ∀ w ∈ BIG, w.before _ s = true := fun w h => hts w (List.mem_cons_of_mem _ h)
  refine lv_aload hx hb d_L_same_0 (lv_at hl 4 rfl) ?_
  refine lv_iconst (v := 0) hx hb d_L_same_2 (by decide) ?_
  refine lv_aload_n hx hb d_L_same_3 rfl (lv_at hl 0 rfl) ?_
  refine lv_iload_n hx hb d_L_same_4 rfl (lv_at hl 1 rfl) ?_
  refine lv_lload_n hx hb d_L_same_5 rfl (lv_at hl 2 rfl) ?_
  refine lv_lload hx hb d_L_same_6 (lv_at hl 3 rfl) ?_
  have hAi := A_in hD hS hA
  refine goT (N := N) (runT (As := [.int bi, .long x, .long y]) (rest := [.int 0, .ref o0]) ⟨hx, hb, hml, hown, hts⟩ (c_M_sameS0 l D cI cL cO N t0 mi hl0 x0 lim a0 k0 u0 v0 t1 gen wrg rns als d0 sz mo cap rf h0 q1 q2 q3 q4 q5 o f ee t b ic bc sa gn ((wO cL o0 og) ++ fr) bi x y hi0 hi1 hi2 hi3 w1 H.size) (cwV 3 hts (gBIG (m4 k_ml_L_54 k_im_M_same k_sel_M_same k_ini_M) k_co_M_same) rfl rfl rfl (by decide +kernel) ⟨Nat.le_of_ble_eq_true rfl, Nat.le_of_ble_eq_true rfl⟩) ⟨PX.bl, va_recv hK.1 hP (ci := 3) (q0 := 0) rfl rfl, PX.pre hP hD hK hE hS hAN hN⟩ rfl rfl hl.1 rfl (lv_room (Nat.le_of_ble_eq_true rfl)) d_L_same_8 ⟨Nat.le_of_ble_eq_true rfl, Nat.le_of_ble_eq_true rfl⟩) hS hAi hown ht hNC hE.1 [(0, 20, 23, 19)] (0, 20, 27, 31) [] htab (by intro y hy; rcases List.mem_cons.mp hy with rfl | hy; exact ⟨⟨by decide, by decide⟩, by decide, _, klc_19, by decide +kernel⟩; exact absurd hy List.not_mem_nil) ⟨⟨by decide, by decide⟩, by decide, klc_31⟩ kcc_S (fun ax H locs hq hS => ?_)
  obtain ⟨u, hP, hD⟩ := hq
  have hD := hD.weaken (fun _ q _ h => hAi q.1 h)
  have hP : va_P D vwCl ((wX x0 lim a0 k0 u0 v0 t1 gen wrg rns als) ++ ((wH a0 d0 sz mo) ++ ((wR cO d0 cap rf) ++ ((wB cI h0 q1 q2 q3 q4 q5 o f ee t b ic bc sa gn) ++ ((wO cL o0 og) ++ fr))))) H := hP
  have hD : va_D A ((wX x0 lim a0 k0 u0 v0 t1 gen wrg rns als) ++ ((wH a0 d0 sz mo) ++ ((wR cO d0 cap rf) ++ ((wB cI h0 q1 q2 q3 q4 q5 o f ee t b ic bc sa gn) ++ ((wO cL o0 og) ++ fr))))) := hD
  refine lv_astore (lv' := [(7, .ref ax), (0, .ref x0), (1, .int bi), (2, .long x), (4, .long y), (6, .ref o0)]) hx hb d_L_same_27 hl (by decide) rfl (fun ls hl => ?_)
  refine lv_iconst (v := 2) hx hb d_L_same_29 (by decide) ?_
  refine W.widen (k := 1) (n := 6) (by omega) (by omega) ?_
  rw [hQ]; exact retMi (w1 := fun u : Unit => ((wX x0 lim a0 k0 u0 v0 t1 gen wrg rns als) ++ ((wH a0 d0 sz mo) ++ ((wR cO d0 cap rf) ++ ((wB cI h0 q1 q2 q3 q4 q5 o f ee t b ic bc sa gn) ++ ((wO cL o0 og) ++ fr)))))) () hx hb hr hlocks hP hD hS rfl d_L_same_30

set_option maxHeartbeats 1000000 in
set_option maxRecDepth 100000 in
theorem c_L_sameS1 (l : Launch) (D : va_G) (cI cL cO : ClassId) (N t0 mi : Nat) (hl0 : l.stackTraces = false) (x0 : Nat) (lim : Int32) (a0 : Nat) (k0 : Nat) (u0 : Nat) (v0 : Nat) (t1 : Nat) (gen : Int32) (wrg : Int32) (rns : Int32) (als : Int32) (d0 : Nat) (sz : Int32) (mo : Int32) (cap : Nat) (rf : Nat → Option Nat) (h0 : Nat) (q1 : Nat) (q2 : Nat) (q3 : Nat) (q4 : Nat) (q5 : Nat) (o : Fn) (f : Fn) (ee : Fn) (t : Fn) (b : Fn) (ic : Int32) (bc : Int32) (sa : Int32) (gn : Int32) (k1 : Nat) (dd : Fn) (o0 : Nat) (og : FL) (fr : va_W) (bi : Int32) (x : Int64) (y : Int64) (hi0 : ¬ bi < 0) (hi1 : bi < sz) (hi2 : vp_in bi cap) (hi3 : rf bi.toNatClampNeg = some h0) (w1 : ¬ sa = 0) (w2 : ¬ vdF b bc = 0) : CHi l y_L_same w_L_same rm_L_same D cI cL cO N t0 mi [.ref x0, .int bi, .long x, .long y, .ref o0] ((wX x0 lim a0 k0 u0 v0 t1 gen wrg rns als) ++ ((wH a0 d0 sz mo) ++ ((wR cO d0 cap rf) ++ ((wB cI h0 q1 q2 q3 q4 q5 o f ee t b ic bc sa gn) ++ ((wK k0 k1) ++ ((wI3 cI k1 dd) ++ ((wO cL o0 og) ++ fr))))))) (fun (r : Int32) (u : Fn) => r = 2) (fun u : Fn => ((wX x0 lim a0 k0 u0 v0 t1 gen wrg rns als) ++ ((wH a0 d0 sz mo) ++ ((wR cO d0 cap rf) ++ ((wB cI h0 q1 q2 q3 q4 q5 o f ee t b ic bc sa gn) ++ ((wK k0 k1) ++ ((wI3 cI k1 u) ++ ((wO cL o0 og) ++ fr)))))))) 1 6 := by
  refine ofH (cc := b_L_same) (maxL := 8) (ret := (some .int)) (hh := [(0, 20, 23, 19), (0, 20, 27, 31)]) (by decide) rfl (Nat.le_of_ble_eq_true rfl) ?_
  intro p e s m below meth c A ls H Q hQ hx hb hr hlocks htab hts hown hml hP hK hD hS hA hl hE hN hAN hNC
  have hl : lv_has ls 8 [(0, .ref x0), (1, .int bi), (2, .long x), (4, .long y), (6, .ref o0)] := hl
  have hown : s.vm.findClass R_L = some m.cls := hown
  have ht : ∀ w ∈ BIG, w.before _ s = true := fun w h => hts w (List.mem_cons_of_mem _ h)
  refine lv_aload hx hb d_L_same_0 (lv_at hl 4 rfl) ?_
  refine lv_iconst (v := 0) hx hb d_L_same_2 (by decide) ?_
  refine lv_aload_n hx hb d_L_same_3 rfl (lv_at hl 0 rfl) ?_
  refine lv_iload_n hx hb d_L_same_4 rfl (lv_at hl 1 rfl) ?_
  refine lv_lload_n hx hb d_L_same_5 rfl (lv_at hl 2 rfl) ?_
  refine lv_lload hx hb d_L_same_6 (lv_at hl 3 rfl) ?_
  have hAi := A_in hD hS hA
  refine goT (N := N) (runT (As := [.int bi, .long x, .long y]) (rest := [.int 0, .ref o0]) ⟨hx, hb, hml, hown, hts⟩ (c_M_sameS1 l D cI cL cO N t0 mi hl0 x0 lim a0 k0 u0 v0 t1 gen wrg rns als d0 sz mo cap rf h0 q1 q2 q3 q4 q5 o f ee t b ic bc sa gn k1 dd ((wO cL o0 og) ++ fr) bi x y hi0 hi1 hi2 hi3 w1 w2 H.size) (cwV 3 hts (gBIG (m4 k_ml_L_54 k_im_M_same k_sel_M_same k_ini_M) k_co_M_same) rfl rfl rfl (by decide +kernel) ⟨Nat.le_of_ble_eq_true rfl, Nat.le_of_ble_eq_true rfl⟩) ⟨PX.bl, va_recv hK.1 hP (ci := 3) (q0 := 0) rfl rfl, PX.pre hP hD hK hE hS hAN hN⟩ rfl rfl hl.1 rfl (lv_room (Nat.le_of_ble_eq_true rfl)) d_L_same_8 ⟨Nat.le_of_ble_eq_true rfl, Nat.le_of_ble_eq_true rfl⟩) hS hAi hown ht hNC hE.1 [(0, 20, 23, 19)] (0, 20, 27, 31) [] htab (by intro y hy; rcases List.mem_cons.mp hy with rfl | hy; exact ⟨⟨by decide, by decide⟩, by decide, _, klc_19, by decide +kernel⟩; exact absurd hy List.not_mem_nil) ⟨⟨by decide, by decide⟩, by decide, klc_31⟩ kcc_S (fun ax H locs hq hS => ?_)
  obtain ⟨u, hP, hD⟩ := hq
  have hD := hD.weaken (fun _ q _ h => hAi q.1 h)
  have hP : va_P D vwCl ((wX x0 lim a0 k0 u0 v0 t1 gen wrg rns als) ++ ((wH a0 d0 sz mo) ++ ((wR cO d0 cap rf) ++ ((wB cI h0 q1 q2 q3 q4 q5 o f ee t b ic bc sa gn) ++ ((wK k0 k1) ++ ((wI3 cI k1 u) ++ ((wO cL o0 og) ++ fr))))))) H := hP
  have hD : va_D A ((wX x0 lim a0 k0 u0 v0 t1 gen wrg rns als) ++ ((wH a0 d0 sz mo) ++ ((wR cO d0 cap rf) ++ ((wB cI h0 q1 q2 q3 q4 q5 o f ee t b ic bc sa gn) ++ ((wK k0 k1) ++ ((wI3 cI k1 u) ++ ((wO cL o0 og) ++ fr))))))) := hD
  refine lv_astore (lv' := [(7, .ref ax), (0, .ref x0), (1, .int bi), (2, .long x), (4, .long y), (6, .ref o0)]) hx hb d_L_same_27 hl (by decide) rfl (fun ls hl => ?_)
  refine lv_iconst (v := 2) hx hb d_L_same_29 (by decide) ?_
  refine W.widen (k := 1) (n := 6) (by omega) (by omega) ?_
  rw [hQ]; exact retMi (w1 := fun u : Fn => ((wX x0 lim a0 k0 u0 v0 t1 gen wrg rns als) ++ ((wH a0 d0 sz mo) ++ ((wR cO d0 cap rf) ++ ((wB cI h0 q1 q2 q3 q4 q5 o f ee t b ic bc sa gn) ++ ((wK k0 k1) ++ ((wI3 cI k1 u) ++ ((wO cL o0 og) ++ fr)))))))) u hx hb hr hlocks hP hD hS rfl d_L_same_30
