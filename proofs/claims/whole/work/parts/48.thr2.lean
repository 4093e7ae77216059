theorem gBIG_move {A A' : Array Value} {s U : State} (hW : s.WarmedH U.vm) {w : Cond} (hw : w ∈ BIG) (h : w.before A s = true) : w.before A' U = true := word_at hW (good_of_word (List.mem_filter.mp hw).2) h
section Base
variable {p : Program} {l : Launch} {e : Env} {R : Room} {s : State} {m : MethodId} {args : Array Value} {below : List Frame} {meth : Method} {c : Code} {T : State} {locs : List Loc} {cells slots : Nat}
/-- the walk's own state as a new start: the heap as it is now -/
def sAt (s T : State) : State := { s with heap := T.heap, slotsUsed := T.slotsUsed }
theorem rebase (X : Stand p l e R s m args below meth c T locs cells slots) {rc rs : Nat} (hc : cells + rc ≤ R.cells) (hs : slots + rs ≤ R.slots) : Stand p l e { R with cells := rc, slots := rs } (sAt s T) m args below meth c T [] 0 0 := by
  have hr := X.room
  simp only [State.hasRoom, Bool.and_eq_true, decide_eq_true_eq] at hr
  have e0 : T.setVm s.vm = { s.setFrames T.frames with heap := T.heap, slotsUsed := T.slotsUsed } := X.same.1
  obtain ⟨t, ht, -⟩ := State.frames_cons X.frames
  refine ⟨X.admits, X.cas, X.clock, X.frames, ?_, X.hears, X.method, X.code, X.here, X.tail, X.warmed, X.limits, X.bytes, ?_⟩
  · simp only [State.hasRoom, Bool.and_eq_true, decide_eq_true_eq]
    exact ⟨⟨⟨⟨hr.1.1.1.1, hr.1.1.1.2⟩, X.cellsAbove hc⟩, X.slotsAbove hs⟩, X.book⟩
  · refine ⟨?_, Nat.le_refl _, Nat.le_refl _, ?_, ?_, ?_⟩
    · exact e0
    · show T.slotsUsed = T.slotsUsed + _
      rw [show ((T.setVm (sAt s T).vm).heap.toList.drop (sAt s T).heap.size) = [] from List.drop_eq_nil_of_le (by show T.heap.toList.length ≤ T.heap.size; simp)]
      simp
    · rw [show ((T.setVm (sAt s T).vm).heap.toList.drop (sAt s T).heap.size) = [] from List.drop_eq_nil_of_le (by show T.heap.toList.length ≤ T.heap.size; simp)]
      simp
    · intro a k hk
      exact ⟨k, hk, rfl, rfl, fun _ _ => rfl⟩
theorem same_up (X : Stand p l e R s m args below meth c T locs cells slots) {U : State} {L : List Loc} {k n : Nat} (h : (sAt s T).sameButNew ({ U with vm := s.vm } : State) L k n) : s.sameButNew ({ U with vm := s.vm } : State) (locs ++ L) (cells + k) (slots + n) := by
  refine X.same.trans ?_
  obtain ⟨h1, h2⟩ := h
  refine ⟨?_, h2⟩
  have e0 : T.setVm s.vm = { s.setFrames T.frames with heap := T.heap, slotsUsed := T.slotsUsed } := X.same.1
  generalize ({ U with vm := s.vm } : State) = V at h1 ⊢
  refine h1.trans ?_
  rw [e0]
  show ({ s.setFrames V.frames with heap := V.heap, slotsUsed := V.slotsUsed } : State) = { (s.setFrames T.frames).setFrames V.frames with heap := V.heap, slotsUsed := V.slotsUsed }
  rw [State.setFrames_setFrames]
theorem same_old {s t : State} {k n : Nat} (h : s.sameButNew t [] k n) (a : Nat) (ce : Cell) (ha : s.heap[a]? = some ce) : t.heap[a]? = some ce := by
  obtain ⟨c', h1, h2, h3, h4⟩ := h.2.2.2.2.2 a ce ha
  rw [h1, h2, show c'.slots = ce.slots from Array.ext_getElem? (fun i => h4 i (by simp))]
end Base
/-- what a method that throws comes to -/
def TQ (below : List Frame) (X : String) (Qh : Heap → Prop) (s : State) (mc ms : Nat) (free : Nat → Prop) : State → Prop := fun t =>
  ∃ (q : Nat) (ce : Cell), t.status = .running ∧ Ended t below (.threw q) ∧ s.WarmedH t.vm ∧ t.heap[q]? = some ce ∧ s.vm.findClass X = some ce.cls ∧ ce.vm = .none ∧ Qh t.heap ∧ ∃ L, s.sameButNew ({ t with vm := s.vm } : State) L mc ms ∧ ∀ z ∈ L, free z.base
def Thr (l : Launch) (y : MethodName) (ws : List Cond) (rm : Room) (Pc : Array Value → State → Prop) (X : String) (Qh : Heap → Prop) (mc ms : Nat) (free : Nat → Prop) : Prop :=
  MetFree l y (headSpec ws rm) Pc (fun _ _ _ _ _ => True) (fun _ st o t => ∃ (q : Nat) (ce : Cell), o = .threw q ∧ st.WarmedH t.vm ∧ t.heap[q]? = some ce ∧ st.vm.findClass X = some ce.cls ∧ ce.vm = .none ∧ Qh t.heap ∧ ∃ L, st.sameButNew ({ t with vm := st.vm } : State) L mc ms ∧ ∀ z ∈ L, free z.base)
theorem Thr.ofW {l : Launch} {y : MethodName} {ws ws' : List Cond} {rm : Room} {Pc : Array Value → State → Prop} {X : String} {Qh : Heap → Prop} {mc ms : Nat} {free : Nat → Prop} {cc : ByteArray} {maxL : Nat} {ret : Option FieldType}
    (hy : plainName y.cls = true) (hw : ws = Cond.code y cc maxL ret :: ws')
    (body : ∀ p e s m args below meth c s₁, BodyLoose p l y (headSpec ws rm) cc maxL ret e s m args below meth c s₁ → c.maxLocals = maxL → Pc args s →
      W p l e (headSpec ws rm).room s m args below meth c s.heap [] 0 0 (TQ below X Qh s mc ms free) (entryFrame m args maxL)) : Thr l y ws rm Pc X Qh mc ms free := by
  refine MetFree.of_bodyS (code := cc) (maxLocals := maxL) (ret := ret) hy ?_ ?_
  · intro args s m h hn
    obtain ⟨meth, c, h1, h2, h3, h4, h5, h6, -, -⟩ := Cond.code_spec hn (atoms_spec (ws := ws) h _ (by rw [hw]; exact List.mem_cons_self))
    exact ⟨meth, c, h1, h2, h3, h4, h5, h6⟩
  · intro p e s m args below meth c s₁ B hml hP _
    have hh0 : s₁.heap = s.heap := by rw [B.state]; rfl
    obtain ⟨t, a1, q, ce, b1, b2, b3⟩ := body p e s m args below meth c s₁ B hml hP s₁ hh0 (Stand.of_body B)
    exact ⟨t, .threw q, a1, b1, b2, q, ce, rfl, b3⟩
section Rows
variable {p : Program} {l : Launch} {e : Env} {R : Room} {s : State} {m : MethodId} {args : Array Value} {below : List Frame} {meth : Method} {c : Code} {H : Heap} {locs : List Loc} {cells slots : Nat} {Q : State → Prop}
variable {cc : ByteArray} {pc : Nat} {ls : Array Slot} {A : Nat → Prop}
theorem out_of (hmt : c.exceptionTable.isEmpty = true) (pc : Nat) : ∀ x ∈ c.exceptionTable.toList, covers x pc = false := covers_of_empty hmt pc
set_option maxHeartbeats 1000000 in
theorem w_throw {X tx : String} {ic ik is N : Nat} (hx : p.tables.exec = Jvm.exec) (hb : c.code = cc) (hl0 : l.stackTraces = false) (hlocks : meth.locks = false) (hown : s.vm.findClass "MadeRunners" = some m.cls) (hin : thIn X ic = true) (hfit : Jvm.Bundle.fit X = true) (ht : ∀ w ∈ BIG, w.before args s = true) (hT : TH N s) (hstr : (is, tx) ∈ th_s)
    (k1 : Cond.classLink "MadeRunners" ik X ∈ BIG) (k2 : Cond.instantiable X 6 ∈ BIG) (k3 : Cond.initialized X ∈ BIG) (hmt : c.exceptionTable.isEmpty = true) (hml : ls.size = c.maxLocals) (hS : va_S A s.heap H locs) (hA : ∀ q, A q → N ≤ q) (hN : N ≤ s.heap.size)
    (d0 : decode cc pc = .ok (.new ik, 3)) (d3 : decode cc (pc + 3) = .ok (.dup, 1)) (d4 : decode cc (pc + 4) = .ok (.ldc is, 2)) (d6 : decode cc (pc + 6) = .ok (.invokespecial ic, 3)) (d9 : decode cc (pc + 9) = .ok (.athrow, 1))
    (r1 : 6 ≤ R.frames) (r2 : 82 ≤ R.locals) (r3 : cells + 1 ≤ R.cells) (r4 : slots + 6 ≤ R.slots) {Qh : Heap → Prop} (hQh : ∀ H1 : Heap, (∀ (a : Nat) (k : Cell), H[a]? = some k → H1[a]? = some k) → Qh H1) : W p l e R s m args below meth c H locs cells slots (TQ below X Qh s (cells + 1) (slots + 6) A) (F0 m pc ls []) := by
  intro T hTH Z
  subst hTH; subst hb
  have htr : e.platform.stackTraces = false := by rw [Z.admits.platform]; exact hl0
  have Z0 := rebase Z (rc := 1) (rs := 6) r3 r4
  have hW0 : s.WarmedH (sAt s T).vm := State.WarmedH.refl s
  have up : ∀ w ∈ BIG, w.before args (sAt s T) = true := fun w hw => gBIG_move (U := sAt s T) hW0 hw (ht w hw)
  have hT' : TH N (sAt s T) := hT.move (U := sAt s T) hW0 (fun a ha => hS.2.1 a (Nat.lt_of_lt_of_le ha hN) (fun z => absurd (hA a z) (by omega)))
  have hown' : (sAt s T).vm.findClass "MadeRunners" = some m.cls := hown
  obtain ⟨vm₁, cX, kX, hfX, hkX, -, -, X₁, st1⟩ := Z0.newCold hx (own := "MadeRunners") (C := X) (index := ik) (n := 6) hown' (up _ k1) (up _ k2) (up _ k3)
    (g := F0 m pc ls []) rfl d0 (Nat.le_refl _) (Nat.le_refl _)
  generalize hV : (T.setVm vm₁).pushCell { cls := cX, slots := kX.instanceTypes.map defaultValue, vm := .none } = V at X₁ st1
  have hcellA : V.heap[T.heap.size]? = some (freshCell cX kX) := by rw [← hV]; exact State.heap_pushCell_size _ _
  have hconst : (Cond.stringRef "MadeRunners" is tx).before args (sAt s T) = true := str_move (U := sAt s T) hW0 (hT.2.1 _ hstr)
  obtain ⟨-, -, -, sa, -, -, -, -, -, hev⟩ := Cond.stringRef_spec hown' hconst
  obtain ⟨U, hsteps, hrun, hend, hW, hsame, ce, hce, K⟩ := X₁.ctorThrowS (hlocks := hlocks) hx htr (own := "MadeRunners") (cls := X) (names := ["java/lang/RuntimeException", "java/lang/Exception"]) (ic := ic) hown' hfit (by decide +kernel)
    (th_words hin up hT') (fun y hy => by cases hy) hfX hkX hcellA (Nat.le_refl _) (msg := .ref sa) rfl
    (g := F0 m (pc + 6) ls [.ref sa, .ref T.heap.size, .ref T.heap.size]) rfl hml rfl rfl (rest := []) rfl d6 d9 (out_of hmt _) (by show 2 + 3 < R.frames; omega) (by show 2 * 0 + 1 + (13 * 3 + 42) ≤ R.locals; omega)
  refine ⟨U, ?_, T.heap.size, ce, hrun, hend, hW, hce, K.cls, K.vm, hQh _ (fun a k ha => ?_), locs, ?_, hS.2.2⟩
  · refine st1 _ ?_
    show Steps p.tables e below (V.setTop (F0 m (pc + 3) ls [.ref T.heap.size])) _
    jvm_step X₁.here [X₁.here.top, hx, d3, Value.category]
    exact X₁.ldcString hx (own := "MadeRunners") (text := tx) (index := is) (a := sa) hown' hconst hev (g := F0 m (pc + 4) ls [.ref T.heap.size, .ref T.heap.size]) rfl d4 _ hsteps
  · exact same_old hsame a k ha
  · have := same_up Z (U := U) hsame
    rw [List.append_nil] at this
    exact this
end Rows
