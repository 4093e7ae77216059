theorem lw_fl {l : Launch} (h : l.flags = flags0) : l.stackTraces = false := by
  unfold Launch.stackTraces
  rw [h]
  decide +kernel
set_option maxHeartbeats 4000000 in
set_option maxRecDepth 100000 in
/-- THE LAW, from its entry -/
theorem whole_start {p : Program} {e : Env} {s : State} {m : MethodId} {below : List Frame} {meth : Method} {c : Code} (l : Launch) (hl0 : l.stackTraces = false) {b L : Nat} {xs : Nat → Int32} (hL : L ≤ 3073) (C0 : lw_At p s m meth c b L xs) : W p l e room_1 s m #[Value.ref b] below meth c s.heap [] 0 0 (lw_Z below #[Value.ref b] s) (entryFrame m ([Value.ref b] : List Value).toArray 8) := by
  obtain ⟨hx, hb, hr, hml, hown, htl, hX, hbl, hlocks, hgv⟩ := C0
  have hs := flat_of_before _ hgv
  have ht : ∀ w ∈ BIG, w.before #[Value.ref b] s = true := fun w h => htl w (List.mem_filter.mp h).1
  have hts : ∀ w ∈ (Cond.initialized R_L :: BIG), w.before #[Value.ref b] s = true := fun w h => (List.mem_cons.mp h).elim (fun e => by rw [e]; exact ht _ k_ini_L) (ht w)
  obtain ⟨D, cI, cL, cO, hK⟩ := KW_of htl
  have hNC : NC s := NC_of (A := #[Value.ref b]) (fun q hq => by
    simp only [NCf, List.mem_cons, List.not_mem_nil, or_false] at hq
    rcases hq with rfl | rfl | rfl | rfl | rfl | rfl | rfl | rfl | rfl | rfl | rfl | rfl <;> exact hs _ (by decide +kernel))
  have hAo : ∀ a : Nat, a < s.heap.size → ¬ Ge s.heap.size a := fun a h => Nat.not_le.mpr h
  obtain ⟨t0, e1, hT⟩ := va_Tof (tm := .static "java/util/ArrayList" sDN sDD) (ty := .object "java/lang/Object") (f := fun _ => .null) (A := Ge s.heap.size) (N := 0) (by decide) (hs (.arrayOf (.static "java/util/ArrayList" sDN sDD) (.object "java/lang/Object")) (by decide +kernel)) (va_eqt (z := 0) (hs (.eq (.length (.static "java/util/ArrayList" sDN sDD)) (.int 0)) (by decide +kernel))) (fun j hj => absurd hj (by omega)) hAo
  have hZ := va_Zof (A := Ge s.heap.size) (htl (.laysStatic "java/util/ArrayList" sDN sDD) (by decide +kernel)) (htl (.initialized "java/util/ArrayList") (by decide +kernel)) e1 hAo
  obtain ⟨mi, hMi⟩ := va_Mi.of (C := sDD) (hs (.isRef (.mirror sDD)) (by decide +kernel))
  have hTH : TH s.heap.size s := by
    refine ⟨fun w hw => tw_move (tw_all w hw) (State.WarmedH.refl s) (htl w (List.mem_filter.mp hw).1), fun q hq => ?_, ZT.of (A := #[Value.ref b]) (htl (.laysStatic sTN sUN sUD) (by decide +kernel)) (hs (.isRef (.static sTN sUN sUD)) (by decide +kernel)), ZT.of (A := #[Value.ref b]) (htl (.laysStatic sTN sSN sSD) (by decide +kernel)) (hs (.isRef (.static sTN sSN sSD)) (by decide +kernel))⟩
    refine str_move (A := #[Value.ref b]) (State.WarmedH.refl s) ?_
    simp only [th_s, List.mem_cons, List.not_mem_nil, or_false] at hq
    rcases hq with rfl | rfl | rfl | rfl | rfl | rfl | rfl | rfl | rfl | rfl <;> exact htl _ (by decide +kernel)
  have hE : EX s.heap.size t0 mi s := ⟨hTH, hZ, hT, va_AO.of (htl (.arrayOver (.object "java/lang/Object")) (by decide +kernel)), hMi⟩
  have hl := lv_entry ([.ref b]) (n := 8) (Nat.le_of_ble_eq_true rfl)
  rw [lg_entry_eq]
  generalize (lg_sl ([.ref b]) ++ List.replicate (8 - (lg_sl ([.ref b])).length) Slot.unset).toArray = ls at hl ⊢
  have hl : lv_has ls 8 [(0, .ref b)] := hl
  exact law_start (A := fun q => s.heap.size ≤ q) hL hx hb hml hown hts ht hX hbl (Nat.not_le.mpr hbl) hl0 hK hE hNC (Nat.le_refl _) (fun _ h => h) (fun _ h => h) hr hlocks (fun _ h => h) (fun k q h => by simp at h) ⟨fun i j p q h => by simp at h, fun k q h => by simp at h⟩ va_S.rf hl
