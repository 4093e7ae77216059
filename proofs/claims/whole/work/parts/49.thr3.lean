section CallT
variable {p : Program} {l : Launch} {e : Env} {R : Room} {s : State} {m : MethodId} {args : Array Value} {below : List Frame} {meth : Method} {c : Code} {H : Heap} {locs : List Loc} {cells slots : Nat} {Q : State → Prop}
variable {y : MethodName} {bytes cc : ByteArray} {maxL nL mc ms n index : Nat} {ret : Option FieldType} {ws : List Cond} {rm : Room} {Pc : Array Value → State → Prop} {X : String} {Qh : Heap → Prop} {free : Nat → Prop} {Ts : List Cond} {own C : String} {b : Nat} {As rest : List Value} {g : JFrame}
/-- a call that throws: where it comes to -/
def RunT (p : Program) (l : Launch) (e : Env) (R : Room) (s : State) (m : MethodId) (args : Array Value) (below : List Frame) (meth : Method) (c : Code) (H : Heap) (locs : List Loc) (cells slots mc ms : Nat) (g : JFrame) (rest : List Value) (X : String) (Qh : Heap → Prop) (free : Nat → Prop) : Prop :=
  ∀ T : State, T.heap = H → Stand p l e R s m args below meth c T locs cells slots → ∃ (q : Nat) (ce : Cell) (T' : State) (L : List Loc), Stand p l e R s m args below meth c T' (locs ++ L) (cells + mc) (slots + ms) ∧ (∀ z ∈ L, free z.base) ∧ T'.heap[q]? = some ce ∧ s.vm.findClass X = some ce.cls ∧ ce.vm = .none ∧ Qh T'.heap ∧ H.size ≤ T'.heap.size ∧ (∀ a : Nat, a < H.size → ¬ free a → T'.heap[a]? = H[a]?) ∧
    ∀ target, Steps p.tables e below ((T'.setTop { g with stack := rest }).pushFrame (.throwing q)) target → Steps p.tables e below (T.setTop g) target
set_option maxHeartbeats 1000000 in
theorem runT (S : CallFix p m c cc nL s args Ts own) (hM : Thr l y ws rm Pc X Qh mc ms free) (cw : CallW R s args own C index y bytes maxL ret ws rm mc ms n) (hp : PreV s H C b Pc As)
    (hg : g.method = m) (hn : As.length = n) (hsize : g.locals.size = nL) (hstack : g.stack = As.reverse ++ .ref b :: rest) (hW : 2 * g.monitorRoom + (rest.map fun v => v.category).sum ≤ 8) (hdg : decode cc g.pc = .ok (.invokevirtual index, 3)) (hf : cells + mc ≤ R.cells ∧ slots + ms ≤ R.slots) :
    RunT p l e R s m args below meth c H locs cells slots mc ms g rest X Qh free := by
  obtain ⟨⟨hrc, hrs, hfr, hlo, hws, hcw, hcode, hini, hy, hlen, hlk⟩, hin, hse⟩ := cw
  obtain ⟨hx, hb, hml, ho, -⟩ := S
  obtain ⟨hbl, ⟨cellB, hcB, hoB, hclB⟩, hPc⟩ := hp
  subst hb; subst hml
  intro T hT Z
  subst hT
  obtain ⟨mk, methM, hnamed, hmethM, hstM, habM⟩ := Cond.instanceMethod_spec hin
  obtain ⟨methM', cM, hmethM', hcM, -, hlM, -, -, -, hsigM⟩ := Cond.code_spec hnamed hcode
  cases hmethM.symm.trans hmethM'
  obtain ⟨c2, r2, m2, q1, q2, q3, q4, kP, hkP, hkPi⟩ := Cond.selects_spec hse
  cases hclB.symm.trans q1
  cases (State.methodFound?_of_named hnamed hy).symm.trans q2
  cases hnamed.symm.trans q3
  have hselP : selectMethod e.platform s.vm cellB.cls mk = .method mk := by rw [Launch.admits_selectMethod Z.admits]; exact q4
  obtain ⟨vm₁, X₁, hstep₁⟩ := Z.invokevirtual hx ho hlk hnamed hmethM hstM hkP hkPi hy (a := b) (cell := cellB) hcB
    (fun z h => by rw [h] at hoB; cases hoB) hselP hmethM habM hkP hkPi (g := g) hg (argsL := As) (rest := rest) (hn.trans (hlen _ hsigM)) hstack hdg
  have U0 : (T.setVm vm₁).heap = T.heap := rfl
  generalize T.setVm vm₁ = U at X₁ hstep₁ U0
  have hWU : s.WarmedH U.vm := X₁.warmed
  generalize hav : (Value.ref b :: As).toArray = av at hstep₁ hPc
  have hg' : ({ g with stack := rest } : JFrame).method = m := hg
  generalize hgg : ({ g with stack := rest } : JFrame) = g1 at hg' hstep₁
  have hgpc : g1.pc = g.pc := by rw [← hgg]
  have hd1 : decode c.code g1.pc = .ok (.invokevirtual index, 3) := by rw [hgpc]; exact hdg
  have hs1 : g1.locals.size = c.maxLocals := by rw [← hgg]; exact hsize
  have hw1 : 2 * g1.monitorRoom + (g1.stack.map fun v => v.category).sum ≤ 8 := by rw [← hgg]; exact hW
  have hAt : At U g1.method c below := by rw [hg']; exact X₁.here
  have hiP : kP.init = .initialized := Cond.initialized_spec (findClass_of_methodNamed hnamed) hkP hini
  obtain ⟨kY, hkY, heY⟩ := hWU.alike.2.2 _ _ hkP
  have hnU : U.methodNamed? y = some mk := X₁.named hnamed
  have hmU : U.vm.method? mk = some methM := by rw [hWU.alike.method?]; exact hmethM
  have hPU : Pc av U := hPc U U0 hWU
  have happ : (headSpec ws rm).appliesLoose y e.platform (U.calling g1 mk av) = true :=
    Spec.appliesLoose_calling (g := g1) hAt hd1 hnU hkY (by rw [heY]; exact hiP)
      (X₁.room_calling (g := g1) (R' := rm) hs1 hmU hcM hfr (by rw [hlM]; omega) (by rw [hrc]; exact hf.1) (by rw [hrs]; exact hf.2)) (atoms_intro fun w hw => hws w hw _ _ hWU)
  obtain ⟨mid, hmid⟩ := hAt.above
  have hfrm : (U.setTop g1).frames = (.java g1 :: mid) ++ below := by rw [State.frames_setTop' g1 hAt.top, hmid]; rfl
  obtain ⟨o, s₂, hsteps, -, hend, q, ce, ho2, hWt, hce, hcls, hvm, hqh, L, hsm, hL⟩ := Steps.callFree hM p X₁.admits X₁.cas X₁.clock (acts := []) hfrm happ (hbl _ _ g1 mk hPU) trivial
  subst ho2
  rw [State.frames_setTop' g1 hAt.top] at hend
  have hf2 : s₂.frames = .throwing q :: .java g1 :: U.frames.tail := hend
  have hWt : U.WarmedH s₂.vm := hWt
  obtain ⟨g₀, hg0⟩ := Option.isSome_iff_exists.mp hAt.top
  obtain ⟨r, hr⟩ := State.topJava?_eq_some.mp hg0
  have hsm : (U.calling g1 mk av).sameButNew ({ s₂ with vm := (U.calling g1 mk av).vm } : State) L mc ms := hsm
  obtain ⟨e2, k2, k3, k4, k5, k6⟩ := hsm
  have e3 : s₂ = ({ (U.calling g1 mk av).setFrames s₂.frames with heap := s₂.heap, slotsUsed := s₂.slotsUsed } : State).setVm s₂.vm := by
    have : s₂ = ({ s₂ with vm := (U.calling g1 mk av).vm } : State).setVm s₂.vm := rfl
    rw [e2] at this
    exact this
  generalize hT' : (({ U with heap := s₂.heap, slotsUsed := s₂.slotsUsed } : State).setVm s₂.vm) = T'
  have hTf : T'.frames = .java g₀ :: r := by rw [← hT']; exact hr
  have hs2 : s₂ = (T'.setTop g1).pushFrame (.throwing q) := by
    refine e3.trans ?_
    rw [hf2, State.calling_eq hAt.top, State.setFrames_setFrames, State.pushFrame, State.frames_setTop _ hTf, State.setTop_of_frames _ hTf, State.setFrames_setFrames, hr, ← hT']
    rfl
  have hsame : U.sameButNew ({ U with heap := s₂.heap, slotsUsed := s₂.slotsUsed } : State) L mc ms := by
    refine ⟨?_, k2, k3, k4, k5, k6⟩
    obtain ⟨t, ht, -⟩ := State.frames_cons hr
    show ({ U with heap := s₂.heap, slotsUsed := s₂.slotsUsed } : State) = { U.setFrames U.frames with heap := s₂.heap, slotsUsed := s₂.slotsUsed }
    rw [State.setFrames_self ht]
  have hTh : T'.heap = s₂.heap := by rw [← hT']; rfl
  refine ⟨q, ce, T', L, ?_, hL, by rw [hTh]; exact hce, ?_, hvm, by rw [hTh]; exact hqh, ?_, ?_, ?_⟩
  · rw [← hT']
    exact ⟨X₁.admits, X₁.cas, X₁.clock, X₁.frames, X₁.room, X₁.hears, X₁.method, X₁.code, (X₁.here.setHeapUsed s₂.heap s₂.slotsUsed).setVm hWt.alike, X₁.tail, State.WarmedH.trans X₁.warmed hWt, X₁.limits, X₁.bytes, X₁.same.trans (hsame.setVm s.vm)⟩
  · have h9 : U.vm.findClass X = some ce.cls := hcls
    rw [hWU.alike.findClass] at h9; exact h9
  · rw [hTh, ← U0]; exact k2
  · intro a ha hna
    rw [hTh]
    have haU : a < U.heap.size := by rw [U0]; exact ha
    obtain ⟨c', h1, h2, h3, h4⟩ := k6 a U.heap[a] (Array.getElem?_eq_getElem haU)
    have h1 : s₂.heap[a]? = some c' := h1
    rw [h1, h2, ← U0, Array.getElem?_eq_getElem haU, show c'.slots = U.heap[a].slots from Array.ext_getElem? (fun i => h4 i (fun hm => hna (hL _ hm)))]
  · intro target h
    refine hstep₁ _ fun acts => ?_
    rw [doInvoke_state]
    rw [← hs2] at h
    exact hsteps.trans h
/-- the caller throws on what its callee threw -/
theorem passT {A : Nat → Prop} {Qh2 : Heap → Prop} (hr : RunT p l e R s m args below meth c H locs cells slots mc ms g rest X Qh free) (hg : g.method = m) (hlk : g.locked = none) (hen : g.entered = []) (hlocks : meth.locks = false) (hmt : c.exceptionTable.isEmpty = true) (hS : va_S A s.heap H locs) (hA : ∀ q, free q → A q)
    (hq : ∀ H1 : Heap, Qh H1 → Qh2 H1) : W p l e R s m args below meth c H locs cells slots (TQ below X Qh2 s (cells + mc) (slots + ms) A) g := by
  intro T hT Z
  obtain ⟨q, ce, T', L, X', hL, h1, h2, h3, h4, h5, h6, st⟩ := hr T hT Z
  obtain ⟨a1, a2, a3, a4, a5⟩ := X'.leaveThrown (hlocks := hlocks) q (g := { g with stack := rest }) hg hlk hen (covers_of_empty hmt _)
  refine ⟨_, st _ a1, q, ce, a2, a3, a4, h1, h2, h3, hq _ h4, locs ++ L, a5, fun z hz => ?_⟩
  rcases List.mem_append.mp hz with h | h
  · exact hS.2.2 z h
  · exact hA _ (hL z h)
end CallT
