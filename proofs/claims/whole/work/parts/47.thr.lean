/-! exceptions: words that are no 'good words', how they move; the statics of Throwable; a method that throws -/
def thAtoms (X : String) (ic : Nat) : List Cond := Jvm.Bundle.ownAtoms "MadeRunners" ic X ["java/lang/RuntimeException", "java/lang/Exception"]
def tw_ok (w : Cond) : Bool := match w with
  | .declares .. => true
  | .castable .. => true
  | .superclass .. => true
  | .codeSync .. => true
  | .native .. => true
  | _ => false
def tw_l : List Cond := (lw_tbl.filter (fun w => tw_ok w && !goodWord w))
theorem tw_move {w : Cond} (hw : tw_ok w = true) {A A' : Array Value} {s U : State} (hW : s.WarmedH U.vm) (h : w.before A s = true) : w.before A' U = true := by
  have h1 : w.before A (s.setVm U.vm) = true := by
    refine Cond.before_shiftedFace (State.Shifted.of_warmed hW) w ?_ h
    revert hw
    unfold tw_ok
    split <;> intro hw <;> first | rfl | (simp at hw)
  have h2 : w.before A (s.setVm U.vm) = w.before A' U := by
    revert hw
    unfold tw_ok
    split <;> intro hw <;> first | rfl | (simp at hw)
  rw [← h2]; exact h1
def heapW (w : Cond) : Bool := match w with
  | .isRef _ => true
  | .laysStatic .. => true
  | _ => false
abbrev sTN : String := "java/lang/Throwable"
abbrev sUN : String := "UNASSIGNED_STACK"
abbrev sUD : String := "[Ljava/lang/StackTraceElement;"
abbrev sSN : String := "SUPPRESSED_SENTINEL"
abbrev sSD : String := "Ljava/util/List;"
def thIn (X : String) (ic : Nat) : Bool := (thAtoms X ic).all (fun w => (heapW w && [Cond.laysStatic sTN sUN sUD, .laysStatic sTN sSN sSD, .isRef (.static sTN sUN sUD), .isRef (.static sTN sSN sSD)].contains w) || (lw_tbl.contains w && (goodWord w || (tw_ok w && !goodWord w))))
theorem th1 : thIn "java/lang/UnsupportedOperationException" 54 = true := by decide +kernel
theorem th2 : thIn "java/lang/IllegalArgumentException" 80 = true := by decide +kernel
theorem th3 : thIn "java/lang/IllegalStateException" 114 = true := by decide +kernel
theorem th4 : thIn "java/lang/IndexOutOfBoundsException" 166 = true := by decide +kernel
/-- a static of Throwable that holds a reference or null, its cell below N -/
def ZT (n d : String) (N : Nat) (U : State) : Prop := ∃ (c : ClassId) (k : Class) (i : Nat) (f : Field) (a : Nat) (cell : Cell) (v : Value), U.vm.findClass sTN = some c ∧ U.fieldFound? sTN n d = some (c, k, i, f) ∧ f.isStatic = true ∧ k.statics = some a ∧ a < N ∧ U.heap[a]? = some cell ∧ cell.vm.isStatics = true ∧ cell.cls = c ∧ f.slot < cell.slots.size ∧ k.staticTypes[f.slot]? = some f.type ∧ cell.slots[f.slot]? = some v ∧ (v = .null ∨ ∃ t, v = .ref t)
theorem ZT.move {n d : String} {N : Nat} {s U : State} (h : ZT n d N s) (hvm : s.vm.Alike U.vm) (hh : ∀ a : Nat, a < N → U.heap[a]? = s.heap[a]?) : ZT n d N U := by
  obtain ⟨c, k, i, f, a, cell, v, h1, h2, h3, h4, h5, h6, h7, h8, h9, h10, h11, h12⟩ := h
  obtain ⟨k', hi', he⟩ := State.fieldFound?_setVm hvm h2
  exact ⟨c, k', i, f, a, cell, v, by rw [hvm.findClass]; exact h1, hi', h3, by rw [he]; exact h4, h5, by rw [hh a h5]; exact h6, h7, h8, h9, by rw [he]; exact h10, h11, h12⟩
theorem ZT.lays {n d : String} {N : Nat} {U : State} {A : Array Value} (h : ZT n d N U) : (Cond.laysStatic sTN n d).before A U = true := by
  obtain ⟨c, k, i, f, a, cell, v, h1, h2, h3, h4, h5, h6, h7, h8, h9, h10, h11, h12⟩ := h
  exact Cond.laysStatic_of h1 h2 h3 h4 h6 h7 h8 h9 h10
theorem ZT.isRef {n d : String} {N : Nat} {U : State} {A : Array Value} (h : ZT n d N U) : (Cond.isRef (.static sTN n d)).before A U = true := by
  obtain ⟨c, k, i, f, a, cell, v, h1, h2, h3, h4, h5, h6, h7, h8, h9, h10, h11, h12⟩ := h
  have he : (Term.static sTN n d).eval A U none [] U = some v := by
    rw [← h11]
    simp [Term.eval, State.fieldNamed?, h2, h3, h4, h6, h7]
  simp only [Cond.before, Cond.holds, Cond.value, he]
  rcases h12 with rfl | ⟨t, rfl⟩ <;> rfl
theorem ZT.of {n d : String} {s : State} {A : Array Value} (hl : (Cond.laysStatic sTN n d).before A s = true) (hr : (Cond.isRef (.static sTN n d)).before A s = true) : ZT n d s.heap.size s := by
  obtain ⟨c, k, i, f, a, cell, hc, hi, hst, ha, hcell, hs, hcls, hlt, hty⟩ := Cond.laysStatic_spec hl
  obtain ⟨u, hu⟩ := Cond.staticRefV hi hst ha hcell hs hr
  refine ⟨c, k, i, f, a, cell, u.v, hc, hi, hst, ha, (Array.getElem?_eq_some_iff.mp hcell).1, hcell, hs, hcls, hlt, hty, hu, ?_⟩
  obtain ⟨v, hv⟩ := u
  cases v <;> first | exact Or.inl rfl | exact Or.inr ⟨_, rfl⟩ | (exact absurd hv (by simp [Value.isRef]))
def th_s : List (Nat × String) := [(52, "there are twenty-four blocks"), (187, "no such block"), (78, "no such instruction"), (84, "there are sixty instructions"), (112, "the block is rows"), (118, "no such byte"), (124, "the block does not wait"), (141, "no such what"), (164, "no such register"), (178, "the block has no bytes that are right")]
def TH (N : Nat) (U : State) : Prop := (∀ w ∈ tw_l, w.before #[] U = true) ∧ (∀ q ∈ th_s, (Cond.stringRef "MadeRunners" q.1 q.2).before #[] U = true) ∧ ZT sUN sUD N U ∧ ZT sSN sSD N U
theorem tw_all : ∀ w ∈ tw_l, tw_ok w = true := fun w h => by
  have := (List.mem_filter.mp h).2
  simp only [Bool.and_eq_true] at this
  exact this.1
theorem str_move {own tx : String} {k : Nat} {A A' : Array Value} {s U : State} (hW : s.WarmedH U.vm) (h : (Cond.stringRef own k tx).before A s = true) : (Cond.stringRef own k tx).before A' U = true := by
  have h1 : (Cond.stringRef own k tx).before A (s.setVm U.vm) = true := Cond.stringRef_warmed hW h
  exact h1
theorem TH.move {N : Nat} {s U : State} (h : TH N s) (hW : s.WarmedH U.vm) (hh : ∀ a : Nat, a < N → U.heap[a]? = s.heap[a]?) : TH N U :=
  ⟨fun w hw => tw_move (tw_all w hw) hW (h.1 w hw), fun q hq => str_move hW (h.2.1 q hq), h.2.2.1.move hW.alike hh, h.2.2.2.move hW.alike hh⟩
theorem TH.calling {N : Nat} {U : State} (h : TH N U) (g : JFrame) (mk : MethodId) (a : Array Value) : TH N (U.calling g mk a) := h.move (State.WarmedH.refl U) (fun _ _ => rfl)
/-- all words that a throw asks for -/
theorem th_words {X : String} {ic N : Nat} {s : State} {args : Array Value} (hin : thIn X ic = true) (ht : ∀ w ∈ BIG, w.before args s = true) (hT : TH N s) : ∀ w ∈ thAtoms X ic, w.before args s = true := by
  intro w hw
  have h1 := List.all_eq_true.mp hin w hw
  simp only [Bool.or_eq_true, Bool.and_eq_true] at h1
  rcases h1 with ⟨-, h2⟩ | ⟨h2, h3⟩
  · simp only [List.contains_iff_mem, List.mem_cons, List.not_mem_nil, or_false] at h2
    rcases h2 with rfl | rfl | rfl | rfl
    · exact hT.2.2.1.lays
    · exact hT.2.2.2.lays
    · exact hT.2.2.1.isRef
    · exact hT.2.2.2.isRef
  · have h2 : w ∈ lw_tbl := List.contains_iff_mem.mp h2
    rcases h3 with h3 | ⟨h3, h4⟩
    · exact ht w (List.mem_filter.mpr ⟨h2, h3⟩)
    · exact tw_move h3 (State.WarmedH.refl s) (hT.1 w (List.mem_filter.mpr ⟨h2, by rw [h3, h4]; rfl⟩))
