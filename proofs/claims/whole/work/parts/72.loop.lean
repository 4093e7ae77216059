theorem nI6 {i : Nat} (h : i ≤ 4000) : nI i + 6 = nI (i + 6) := by
  have e1 := nI_toInt (n := i) (by omega)
  have e2 := nI_toInt (n := i + 6) (by omega)
  have e6 : (6 : Int32).toInt = 6 := by decide
  exact ext32 (by rw [i32_add (by omega) (by omega), e1, e6, e2]; omega)
theorem lm6 {L : Nat} (h : L ≤ 3073) : (Int32.ofNat L - 6).toInt = (L : Int) - 6 := by
  have e1 : (Int32.ofNat L).toInt = L := nI_toInt (n := L) (by omega)
  rw [Int32.toInt_sub, e1, show (6 : Int32).toInt = 6 by decide]
  exact Int.bmod_eq_of_le (by omega) (by omega)
set_option maxHeartbeats 4000000 in
set_option maxRecDepth 100000 in
theorem law_loop {p : Program} {l : Launch} {e : Env} {s : State} {m : MethodId} {below : List Frame} {meth : Method} {c : Code} {D : va_G} {cI cL cO : ClassId} {b L : Nat} {xs : Nat → Int32} {N t0 mi : Nat} {A : Nat → Prop} (hL : L ≤ 3073) (hx : p.tables.exec = Jvm.exec) (hb : c.code = code) (hml : c.maxLocals = 8) (hown : s.vm.findClass R_L = some m.cls) (hts : ∀ w ∈ (Cond.initialized R_L :: BIG), w.before #[Value.ref b] s = true) (ht : ∀ w ∈ BIG, w.before #[Value.ref b] s = true) (hX : va_X b L xs s s.heap) (hbl9 : b < s.heap.size) (hbA : ¬ A b) (hl0 : l.stackTraces = false) (hK : KW D cI cL cO s) (hE : EX N t0 mi s) (hNC : NC s) (hN : N ≤ s.heap.size) (hAN : ∀ q, A q → N ≤ q) (hA : ∀ q : Nat, s.heap.size ≤ q → A q) (hr : meth.sig.returnType = ret) (hlocks : meth.locks = false) (hAs : ∀ q, A q → s.heap.size ≤ q) {x0 z0 o0 : Nat} : ∀ (n i cells slots : Nat) (H : Heap) (locs : List Loc) (ls : Array Slot), i ≤ L + 1 → L + 7 ≤ i + 6 * n → cells + 7 * n + 8 ≤ 601024 → slots + 590 * n + 600 ≤ 7293000 → LSt D cI cL cO A t0 x0 z0 o0 H → va_S A s.heap H locs → lv_has ls 8 [(0, .ref b), (1, .ref x0), (2, .ref z0), (3, .ref o0), (4, .int (nI i))] →
    W p l e room_1 s m #[Value.ref b] below meth c H locs cells slots (lw_Z below #[Value.ref b] s) (F0 m 33 ls []) := by
  intro n
  induction n with
  | zero =>
    intro i cells slots H locs ls h1 h2
    exact absurd h2 (by omega)
  | succ n ih =>
    intro i cells slots H locs ls h1 h2 h3 h4 hLS hS hl
    refine lv_iload hx hb d_L_law_33 (lv_at hl 4 rfl) ?_
    refine lv_aload_n hx hb d_L_law_35 rfl (lv_at hl 0 rfl) ?_
    refine va_slen hx hb hX hbl9 hbA hS d_L_law_36 ?_
    refine lv_bipush (v := 6) hx hb d_L_law_37 (by decide) ?_
    refine lv_isub hx hb d_L_law_39 ?_
    refine lv_icmp_gt (tgt := 1047) hx hb d_L_law_40 (by decide) (fun c_40 => ?_) (fun c_40 => ?_)
    · refine lv_iconst (v := 1) hx hb d_L_law_1047 (by decide) ?_
      refine va_forget (fun q hq => hAs _ (hS.2.2 q hq)) ?_
      refine W.widen (k := 601024) (n := 7293000) (by omega) (by omega) ?_
      exact lw_ret hx hb hr hlocks d_L_law_1048
    have hi6 : i + 6 ≤ L := by
      rw [lt32, lm6 hL, nI_toInt (n := i) (by omega)] at c_40
      omega
    have kk : ∀ (H : Heap) (locs : List Loc) (ls : Array Slot), LSt D cI cL cO A t0 x0 z0 o0 H → va_S A s.heap H locs → lv_has ls 8 [(0, .ref b), (1, .ref x0), (2, .ref z0), (3, .ref o0), (4, .int (nI i))] → W p l e room_1 s m #[Value.ref b] below meth c H locs (cells + 7) (slots + 590) (lw_Z below #[Value.ref b] s) (F0 m 1041 ls []) := by
      intro H locs ls hLS hS hl
      refine lv_iinc (v := nI i + 6) (lv' := [(4, .int (nI i + 6)), (0, .ref b), (1, .ref x0), (2, .ref z0), (3, .ref o0)]) hx hb d_L_law_1041 hl (k := 4) rfl rfl (by decide) rfl (fun ls hl => ?_)
      refine lv_goto (tgt := 33) hx hb d_L_law_1044 (by decide) ?_
      rw [nI6 (by omega)] at hl
      exact ih (i + 6) (cells + 7) (slots + 590) H locs ls (by omega) (by omega) (by omega) (by omega) hLS hS (lv_sub hl [1, 2, 3, 4, 0] rfl)
    have hc8 : cells + 8 ≤ 601024 := by omega
    have hs8 : slots + 600 ≤ 7293000 := by omega
    refine lv_aload_n hx hb d_L_law_43 rfl (lv_at hl 0 rfl) ?_
    refine lv_iload hx hb d_L_law_44 (lv_at hl 4 rfl) ?_
    refine va_sld hx hb hX hbl9 hbA hS (vp_in_nI (by omega) (by omega)) d_L_law_46 ?_
    refine lv_bipush (v := 15) hx hb d_L_law_47 (by decide) ?_
    refine lv_iand hx hb d_L_law_49 ?_
    generalize xs (nI i).toNatClampNeg &&& 15 = xv
    by_cases c_0 : xv = 0
    · refine lv_tableIn (off := 70) (tgt := 120) hx hb d_L_law_50 (by rw [c_0]; decide) (by rw [c_0]; decide) (by rw [c_0] <;> rfl) (by decide) ?_
      exact lc0 hL hx hb hml hown hts ht hX hbl9 hbA hl0 hK hE hNC hN hAN hA hi6 hc8 hs8 hLS hS hl kk
    by_cases c_1 : xv = 1
    · refine lv_tableIn (off := 114) (tgt := 164) hx hb d_L_law_50 (by rw [c_1]; decide) (by rw [c_1]; decide) (by rw [c_1] <;> rfl) (by decide) ?_
      exact lc1 hL hx hb hml hown hts ht hX hbl9 hbA hl0 hK hE hNC hN hAN hA hi6 hc8 hs8 hLS hS hl kk
    by_cases c_2 : xv = 2
    · refine lv_tableIn (off := 206) (tgt := 256) hx hb d_L_law_50 (by rw [c_2]; decide) (by rw [c_2]; decide) (by rw [c_2] <;> rfl) (by decide) ?_
      exact lc2 hL hx hb hml hown hts ht hX hbl9 hbA hl0 hK hE hNC hN hAN hA hi6 hc8 hs8 hLS hS hl kk
    by_cases c_3 : xv = 3
    · refine lv_tableIn (off := 262) (tgt := 312) hx hb d_L_law_50 (by rw [c_3]; decide) (by rw [c_3]; decide) (by rw [c_3] <;> rfl) (by decide) ?_
      exact lc3 hL hx hb hml hown hts ht hX hbl9 hbA hl0 hK hE hNC hN hAN hA hi6 hc8 hs8 hLS hS hl kk
    by_cases c_4 : xv = 4
    · refine lv_tableIn (off := 330) (tgt := 380) hx hb d_L_law_50 (by rw [c_4]; decide) (by rw [c_4]; decide) (by rw [c_4] <;> rfl) (by decide) ?_
      exact lc4 hL hx hb hml hown hts ht hX hbl9 hbA hl0 hK hE hNC hN hAN hA hi6 hc8 hs8 hLS hS hl kk
    by_cases c_5 : xv = 5
    · refine lv_tableIn (off := 410) (tgt := 460) hx hb d_L_law_50 (by rw [c_5]; decide) (by rw [c_5]; decide) (by rw [c_5] <;> rfl) (by decide) ?_
      exact lc5 hL hx hb hml hown hts ht hX hbl9 hbA hl0 hK hE hNC hN hAN hA hi6 hc8 hs8 hLS hS hl kk
    by_cases c_6 : xv = 6
    · refine lv_tableIn (off := 466) (tgt := 516) hx hb d_L_law_50 (by rw [c_6]; decide) (by rw [c_6]; decide) (by rw [c_6] <;> rfl) (by decide) ?_
      exact lc6 hL hx hb hml hown hts ht hX hbl9 hbA hl0 hK hE hNC hN hAN hA hi6 hc8 hs8 hLS hS hl kk
    by_cases c_7 : xv = 7
    · refine lv_tableIn (off := 479) (tgt := 529) hx hb d_L_law_50 (by rw [c_7]; decide) (by rw [c_7]; decide) (by rw [c_7] <;> rfl) (by decide) ?_
      exact lc7 hL hx hb hml hown hts ht hX hbl9 hbA hl0 hK hE hNC hN hAN hA hi6 hc8 hs8 hLS hS hl kk
    by_cases c_8 : xv = 8
    · refine lv_tableIn (off := 547) (tgt := 597) hx hb d_L_law_50 (by rw [c_8]; decide) (by rw [c_8]; decide) (by rw [c_8] <;> rfl) (by decide) ?_
      exact lc8 hL hx hb hml hown hts ht hX hbl9 hbA hl0 hK hE hNC hN hAN hA hi6 hc8 hs8 hLS hS hl kk
    by_cases c_9 : xv = 9
    · refine lv_tableIn (off := 560) (tgt := 610) hx hb d_L_law_50 (by rw [c_9]; decide) (by rw [c_9]; decide) (by rw [c_9] <;> rfl) (by decide) ?_
      exact lc9 hL hx hb hml hown hts ht hX hbl9 hbA hl0 hK hE hNC hN hAN hA hi6 hc8 hs8 hLS hS hl kk
    by_cases c_10 : xv = 10
    · refine lv_tableIn (off := 704) (tgt := 754) hx hb d_L_law_50 (by rw [c_10]; decide) (by rw [c_10]; decide) (by rw [c_10] <;> rfl) (by decide) ?_
      exact lc10 hL hx hb hml hown hts ht hX hbl9 hbA hl0 hK hE hNC hN hAN hA hi6 hc8 hs8 hLS hS hl kk
    by_cases c_11 : xv = 11
    · refine lv_tableIn (off := 759) (tgt := 809) hx hb d_L_law_50 (by rw [c_11]; decide) (by rw [c_11]; decide) (by rw [c_11] <;> rfl) (by decide) ?_
      exact lc11 hL hx hb hml hown hts ht hX hbl9 hbA hl0 hK hE hNC hN hAN hA hi6 hc8 hs8 hLS hS hl kk
    by_cases c_12 : xv = 12
    · refine lv_tableIn (off := 815) (tgt := 865) hx hb d_L_law_50 (by rw [c_12]; decide) (by rw [c_12]; decide) (by rw [c_12] <;> rfl) (by decide) ?_
      exact lc12 hL hx hb hml hown hts ht hX hbl9 hbA hl0 hK hE hNC hN hAN hA hi6 hc8 hs8 hLS hS hl kk
    by_cases c_13 : xv = 13
    · refine lv_tableIn (off := 966) (tgt := 1016) hx hb d_L_law_50 (by rw [c_13]; decide) (by rw [c_13]; decide) (by rw [c_13] <;> rfl) (by decide) ?_
      exact lc13 hL hx hb hml hown hts ht hX hbl9 hbA hl0 hK hE hNC hN hAN hA hi6 hc8 hs8 hLS hS hl kk
    refine lv_tableOut (tgt := 1041) hx hb d_L_law_50 (by have := lv_neT c_0 (show (0 : Int32).toInt = 0 by decide); have := lv_neT c_1 (show (1 : Int32).toInt = 1 by decide); have := lv_neT c_2 (show (2 : Int32).toInt = 2 by decide); have := lv_neT c_3 (show (3 : Int32).toInt = 3 by decide); have := lv_neT c_4 (show (4 : Int32).toInt = 4 by decide); have := lv_neT c_5 (show (5 : Int32).toInt = 5 by decide); have := lv_neT c_6 (show (6 : Int32).toInt = 6 by decide); have := lv_neT c_7 (show (7 : Int32).toInt = 7 by decide); have := lv_neT c_8 (show (8 : Int32).toInt = 8 by decide); have := lv_neT c_9 (show (9 : Int32).toInt = 9 by decide); have := lv_neT c_10 (show (10 : Int32).toInt = 10 by decide); have := lv_neT c_11 (show (11 : Int32).toInt = 11 by decide); have := lv_neT c_12 (show (12 : Int32).toInt = 12 by decide); have := lv_neT c_13 (show (13 : Int32).toInt = 13 by decide); omega) (by decide) ?_
    refine W.widen (k := cells + 7) (n := slots + 590) (by omega) (by omega) ?_
    exact kk H locs ls hLS hS hl

/-! where the law begins -/
theorem nw_of {w : Cond} (h : nw_ok w = true) {A : Array Value} {s : State} (hz : w.before A s = true) : va_Nw w s := by
  cases w <;> first | (simp [nw_ok] at h; done) | exact va_Nw.of rfl hz
theorem NC_of {A : Array Value} {s : State} (h : ∀ q ∈ NCf, (Cond.not (.castable q.1 q.2)).before A s = true) : NC s := by
  intro q hq c t h1 h2
  have h3 := h q hq
  simp only [Cond.before, Cond.holds, Cond.value, h1, h2] at h3
  simpa using h3
theorem KW_of {A : Array Value} {s : State} (ht : ∀ w ∈ lw_tbl, w.before A s = true) : ∃ (D : va_G) (cI cL cO : ClassId), KW D cI cL cO s := by
  have hB : ∀ w ∈ BIG, w.before A s = true := fun w h => ht w (List.mem_filter.mp h).1
  obtain ⟨c0, i0, k0⟩ := u_known (C := R_B) (T := T_B) (N := 9) hB in_B (hB _ k_ins_B)
  obtain ⟨c1, i1, k1⟩ := u_known (C := R_K) (T := T_K) (N := 1) hB in_K (hB _ k_ins_K)
  obtain ⟨c2, i2, k2⟩ := u_known (C := R_U) (T := T_U) (N := 6) hB in_U (hB _ k_ins_U)
  obtain ⟨c3, i3, k3⟩ := u_known (C := R_M) (T := T_M) (N := 10) hB in_M (hB _ k_ins_M)
  obtain ⟨c4, i4, k4⟩ := u_known (C := R_A) (T := T_A) (N := 3) hB in_A (hB _ k_ins_A)
  obtain ⟨c5, i5, k5⟩ := u_known (C := R_Z) (T := T_Z) (N := 26) hB in_Z (hB _ k_ins_Z)
  obtain ⟨cI, kI, pI, a1, a2, a3⟩ := Cond.arrayClass_spec (hB _ k_ac_int)
  obtain ⟨cL, kL, pL, b1, b2, b3⟩ := Cond.arrayClass_spec (hB _ k_ac_long)
  obtain ⟨pO, cO, kO, d1, d2, d3, d4, d5⟩ := Cond.arrayOver_spec (ht (.arrayOver (.object "java/lang/Object")) (by decide +kernel))
  refine ⟨(fun k => if k = 0 then c0 else if k = 1 then c1 else if k = 2 then c2 else if k = 3 then c3 else if k = 4 then c4 else c5, fun k => if k = 0 then i0 else if k = 1 then i1 else if k = 2 then i2 else if k = 3 then i3 else if k = 4 then i4 else i5), cI, cL, cO, ⟨?_, ?_⟩, ?_⟩
  · intro k q hq
    match k, hq with
    | 0, hq => cases hq; exact k0
    | 1, hq => cases hq; exact k1
    | 2, hq => cases hq; exact k2
    | 3, hq => cases hq; exact k3
    | 4, hq => cases hq; exact k4
    | 5, hq => cases hq; exact k5
    | k + 6, hq => simp at hq
  · intro k q hq
    match k, hq with
    | 0, hq => cases hq; exact ⟨fun n z => ⟨fun k h => (by cases h), kI, a2, pI, a3⟩, a1⟩
    | 1, hq => cases hq; exact ⟨fun n z => ⟨fun k h => (by cases h), kL, b2, pL, b3⟩, b1⟩
    | 2, hq => cases hq; exact ⟨fun n z => ⟨fun k h => (by cases h), kO, d3, pO, d4⟩, kO, pO, d3, d4, d1, d5⟩
    | k + 3, hq => simp at hq
  · intro w hw
    exact nw_of (nw_all w hw) (ht w (List.mem_filter.mp hw).1)
