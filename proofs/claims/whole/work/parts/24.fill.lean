abbrev w_Ar_fill : List Cond := .code y_Ar_fill b_Ar_fill 4 none :: BIG
set_option maxHeartbeats 4000000 in
set_option maxRecDepth 100000 in
theorem c_Ar_fill (l : Launch) (D : va_G) (cI cL cO : ClassId) (a0 : Nat) (f : Fn) (fr : va_W) (v : Int32) : CMv l y_Ar_fill w_Ar_fill ({ frames := 0, cells := 0, slots := 0, locals := 0 }) D cI cL cO [.ref a0, .int v] ((wI3 cI a0 f) ++ fr) (fun u : Fn => u = fun _ => v) (fun u : Fn => ((wI3 cI a0 u) ++ fr)) 0 0 := by
  refine ofMv (cc := b_Ar_fill) (maxL := 4) (ret := none) (by decide) rfl (Nat.le_of_ble_eq_true rfl) ?_
  intro p e s m below meth c A ls H Q hQ hx hb hr hlocks hin hts hown hml hP hK hD hS hA hl
  have hl : lv_has ls 4 [(0, .ref a0), (1, .int v)] := hl
  have hown : s.vm.findClass R_Ar = some m.cls := hown
  have ht : ∀ w ∈ BIG, w.before _ s = true := fun w h => hts w (List.mem_cons_of_mem _ h)
  refine lv_iconst (v := 0) hx hb d_Ar_fill_0 (by decide) ?_
  refine lv_istore_n (lv' := [(2, .int 0), (0, .ref a0), (1, .int v)]) hx hb d_Ar_fill_1 rfl hl (by decide) rfl (fun ls hl => ?_)
  refine lv_aload_n hx hb d_Ar_fill_2 rfl (lv_at hl 1 rfl) ?_
  refine va_alen (v := 300) hx hb hK.1 hP 0 0 rfl rfl rfl d_Ar_fill_3 ?_
  refine lv_istore_n (lv' := [(3, .int 300), (2, .int 0), (0, .ref a0), (1, .int v)]) hx hb d_Ar_fill_4 rfl hl (by decide) rfl (fun ls hl => ?_)
  have lp : ∀ (n : Nat) (i : Int32) (f1 : Fn) (H : Heap) (locs : List Loc) (ls : Array Slot), (i.toInt + (n : Int) = 301) → (0 ≤ i.toInt ∧ i.toInt ≤ 300) → (∀ j : Nat, (j : Int) < i.toInt → f1 j = v) → va_P D vwCl ((wI3 cI a0 f1) ++ fr) H → va_D A ((wI3 cI a0 f1) ++ fr) → va_S A s.heap H locs → lv_has ls 4 [(0, .ref a0), (1, .int v), (2, .int i), (3, .int 300)] → W p l e ({ frames := 0, cells := 0, slots := 0, locals := 0 } : Room) s m ([.ref a0, .int v] : List Value).toArray below meth c H locs 0 0 Q (F0 m 5 ls []) := by
    intro n
    induction n with
    | zero =>
      intro i f1 H locs ls hn hi hf hP hD hS hl
      exact absurd hn (by omega)
    | succ n ih =>
      intro i f1 H locs ls hn hi hf hP hD hS hl
      refine lv_iload_n hx hb d_Ar_fill_5 rfl (lv_at hl 2 rfl) ?_
      refine lv_iload_n hx hb d_Ar_fill_6 rfl (lv_at hl 3 rfl) ?_
      refine lv_icmp_ge (tgt := 20) hx hb d_Ar_fill_7 (by decide) (fun c_7 => ?_) (fun c_7 => ?_)
      · have hP := P_ai (g := fun _ => v) (fun j hj => hf j (by have := i_le c_7; omega)) hP
        have hP : va_P D vwCl ((wI3 cI a0 (fun _ => v)) ++ fr) H := hP
        have hD : va_D A ((wI3 cI a0 (fun _ => v)) ++ fr) := D_ai hD
        rw [hQ]; exact retMv (w1 := fun u : Fn => ((wI3 cI a0 u) ++ fr)) (fun _ => v) hx hb hr hlocks hP hD hS rfl d_Ar_fill_20
      · refine lv_aload_n hx hb d_Ar_fill_10 rfl (lv_at hl 0 rfl) ?_
        refine lv_iload_n hx hb d_Ar_fill_11 rfl (lv_at hl 2 rfl) ?_
        refine lv_iload_n hx hb d_Ar_fill_12 rfl (lv_at hl 1 rfl) ?_
        refine va_iast hx hb hK.1 hP hD hS 0 0 rfl rfl (in_of (N := 300) (by decide) (nn_of hi.1) c_7) d_Ar_fill_13 (fun H locs hP hD hS => ?_)
        have hP : va_P D vwCl ((wI3 cI a0 (upd f1 i.toNatClampNeg v)) ++ fr) H := hP
        have hD : va_D A ((wI3 cI a0 (upd f1 i.toNatClampNeg v)) ++ fr) := hD
        refine lv_iinc (v := i + 1) (lv' := [(2, .int (i + 1)), (0, .ref a0), (1, .int v), (3, .int 300)]) hx hb d_Ar_fill_14 hl (k := 2) rfl rfl (by decide) rfl (fun ls hl => ?_)
        refine lv_goto (tgt := 5) hx hb d_Ar_fill_17 (by decide) ?_
        exact ih (i + 1) (upd f1 i.toNatClampNeg v) _ _ ls (by rw [i32_1 (by omega)]; omega) (by rw [i32_1 (by omega)]; have := i_lt c_7; have h3 : (300 : Int32).toInt = 300 := (by decide); omega) (fill_s hi.1 (by omega) hf) hP hD hS (lv_sub hl [1, 2, 0, 3] rfl)
  exact lp 301 0 f _ _ ls (by decide) (by decide) (fun j hj => absurd hj (by simp)) hP hD hS (lv_sub hl [2, 3, 1, 0] rfl)

abbrev w_Ar_fill2 : List Cond := .code y_Ar_fill2 b_Ar_fill2 5 none :: BIG
set_option maxHeartbeats 4000000 in
set_option maxRecDepth 100000 in
theorem c_Ar_fill2 (l : Launch) (D : va_G) (cI cL cO : ClassId) (a0 : Nat) (f : FL) (fr : va_W) (v : Int64) : CMv l y_Ar_fill2 w_Ar_fill2 ({ frames := 0, cells := 0, slots := 0, locals := 0 }) D cI cL cO [.ref a0, .long v] ((wL4 cL a0 f) ++ fr) (fun u : FL => u = fun _ => v) (fun u : FL => ((wL4 cL a0 u) ++ fr)) 0 0 := by
  refine ofMv (cc := b_Ar_fill2) (maxL := 5) (ret := none) (by decide) rfl (Nat.le_of_ble_eq_true rfl) ?_
  intro p e s m below meth c A ls H Q hQ hx hb hr hlocks hin hts hown hml hP hK hD hS hA hl
  have hl : lv_has ls 5 [(0, .ref a0), (1, .long v)] := hl
  have hown : s.vm.findClass R_Ar = some m.cls := hown
  have ht : ∀ w ∈ BIG, w.before _ s = true := fun w h => hts w (List.mem_cons_of_mem _ h)
  refine lv_iconst (v := 0) hx hb d_Ar_fill2_0 (by decide) ?_
  refine lv_istore_n (lv' := [(3, .int 0), (0, .ref a0), (1, .long v)]) hx hb d_Ar_fill2_1 rfl hl (by decide) rfl (fun ls hl => ?_)
  refine lv_aload_n hx hb d_Ar_fill2_2 rfl (lv_at hl 1 rfl) ?_
  refine va_alen (v := 4) hx hb hK.1 hP 0 1 rfl rfl rfl d_Ar_fill2_3 ?_
  refine lv_istore (lv' := [(4, .int 4), (3, .int 0), (0, .ref a0), (1, .long v)]) hx hb d_Ar_fill2_4 hl (by decide) rfl (fun ls hl => ?_)
  have lp : ∀ (n : Nat) (i : Int32) (f1 : FL) (H : Heap) (locs : List Loc) (ls : Array Slot), (i.toInt + (n : Int) = 5) → (0 ≤ i.toInt ∧ i.toInt ≤ 4) → (∀ j : Nat, (j : Int) < i.toInt → f1 j = v) → va_P D vwCl ((wL4 cL a0 f1) ++ fr) H → va_D A ((wL4 cL a0 f1) ++ fr) → va_S A s.heap H locs → lv_has ls 5 [(0, .ref a0), (1, .long v), (3, .int i), (4, .int 4)] → W p l e ({ frames := 0, cells := 0, slots := 0, locals := 0 } : Room) s m ([.ref a0, .long v] : List Value).toArray below meth c H locs 0 0 Q (F0 m 6 ls []) := by
    intro n
    induction n with
    | zero =>
      intro i f1 H locs ls hn hi hf hP hD hS hl
      exact absurd hn (by omega)
    | succ n ih =>
      intro i f1 H locs ls hn hi hf hP hD hS hl
      refine lv_iload_n hx hb d_Ar_fill2_6 rfl (lv_at hl 2 rfl) ?_
      refine lv_iload hx hb d_Ar_fill2_7 (lv_at hl 3 rfl) ?_
      refine lv_icmp_ge (tgt := 22) hx hb d_Ar_fill2_9 (by decide) (fun c_9 => ?_) (fun c_9 => ?_)
      · have hP := P_al (g := fun _ => v) (fun j hj => hf j (by have := i_le4 c_9; omega)) hP
        have hP : va_P D vwCl ((wL4 cL a0 (fun _ => v)) ++ fr) H := hP
        have hD : va_D A ((wL4 cL a0 (fun _ => v)) ++ fr) := D_ai hD
        rw [hQ]; exact retMv (w1 := fun u : FL => ((wL4 cL a0 u) ++ fr)) (fun _ => v) hx hb hr hlocks hP hD hS rfl d_Ar_fill2_22
      · refine lv_aload_n hx hb d_Ar_fill2_12 rfl (lv_at hl 0 rfl) ?_
        refine lv_iload_n hx hb d_Ar_fill2_13 rfl (lv_at hl 2 rfl) ?_
        refine lv_lload_n hx hb d_Ar_fill2_14 rfl (lv_at hl 1 rfl) ?_
        refine va_last hx hb hK.1 hP hD hS 0 1 rfl rfl (in_of (N := 4) (by decide) (nn_of hi.1) c_9) d_Ar_fill2_15 (fun H locs hP hD hS => ?_)
        have hP : va_P D vwCl ((wL4 cL a0 (vp_updL f1 i.toNatClampNeg v)) ++ fr) H := hP
        have hD : va_D A ((wL4 cL a0 (vp_updL f1 i.toNatClampNeg v)) ++ fr) := hD
        refine lv_iinc (v := i + 1) (lv' := [(3, .int (i + 1)), (0, .ref a0), (1, .long v), (4, .int 4)]) hx hb d_Ar_fill2_16 hl (k := 2) rfl rfl (by decide) rfl (fun ls hl => ?_)
        refine lv_goto (tgt := 6) hx hb d_Ar_fill2_19 (by decide) ?_
        exact ih (i + 1) (vp_updL f1 i.toNatClampNeg v) _ _ ls (by rw [i32_1 (by omega)]; omega) (by rw [i32_1 (by omega)]; have := i_lt c_9; have h3 : (4 : Int32).toInt = 4 := (by decide); omega) (fill_l hi.1 (by omega) hf) hP hD hS (lv_sub hl [1, 2, 0, 3] rfl)
  exact lp 5 0 f _ _ ls (by decide) (by decide) (fun j hj => absurd hj (by simp)) hP hD hS (lv_sub hl [2, 3, 1, 0] rfl)
