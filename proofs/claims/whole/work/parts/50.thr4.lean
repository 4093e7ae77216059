/-! a catch whose classes may be open still -/
/-- what a row of the table says of an object of class 'k': it covers pc, its class links, the object is one of it or not (b) -/
def hRow (pl : Platform) (s₀ : State) (d : ClassId) (pc : Nat) (k : ClassId) (b : Bool) (y : ExceptionTableEntry) : Prop := covers y pc = true ∧ y.catchType ≠ 0 ∧ ∃ c, s₀.vm.ClassLinks pl d y.catchType c ∧ s₀.vm.assignable k c = b
theorem hGo1 {Q : Handler → Pre} {E : CtlPost} {e : Env} {d : Bool} {acts : List Action} {S : State} {f : JFrame} {a : Addr} {x : ExceptionTableEntry} {t : List ExceptionTableEntry} {c : ClassId} {ce : Cell}
    (h1 : covers x f.pc = true) (h2 : x.catchType ≠ 0) (h3 : S.vm.ClassLinks e.platform f.method.cls x.catchType c) (h4 : S.heap[a]? = some ce) (h5 : ∀ k, ce.vm ≠ .statics k) (h6 : ∃ k, S.vm.classes[ce.cls]? = some k) (h7 : ∃ k, S.vm.classes[c]? = some k) (b : Bool) (h8 : S.vm.assignable ce.cls c = b) :
    wp (findHandler.go f a (x :: t)) Q E e d acts S ↔ (if b = true then Q (.found x.handlerPc) d acts (S.setVm (S.vm.noted f.method.cls x.catchType (.cls c))) else wp (findHandler.go f a t) Q E e d acts (S.setVm (S.vm.noted f.method.cls x.catchType (.cls c)))) := by
  obtain ⟨r1, r2⟩ := (resolveClass_links e.toSetting h3).op (op := VmOp.resolveClass f.method.cls x.catchType) rfl
  have al : S.vm.Alike (S.vm.noted f.method.cls x.catchType (.cls c)) := (Vm.Alike.refl S.vm).noted _ _ _
  obtain ⟨ka, ha⟩ := h6
  obtain ⟨kb, hb⟩ := h7
  obtain ⟨ka', ha', -⟩ := al.2.2 _ _ ha
  obtain ⟨kb', hb', -⟩ := al.2.2 _ _ hb
  have h8' : (S.vm.noted f.method.cls x.catchType (.cls c)).assignable ce.cls c = b := by rw [al.assignable]; exact h8
  simp only [covers] at h1
  cases b <;> simp [findHandler.go, h1, h2, r1, r2, h4, h5, ha', hb', h8', VmOp.dirties, VmOp.acts]
theorem hGo {e : Env} {s₀ : State} {f : JFrame} {a : Addr} {ce : Cell} (h5 : ∀ k, ce.vm ≠ .statics k) (h6 : ∃ k, s₀.vm.classes[ce.cls]? = some k) (x : ExceptionTableEntry) (rest : List ExceptionTableEntry) (hx : hRow e.platform s₀ f.method.cls f.pc ce.cls true x) :
    ∀ (pre : List ExceptionTableEntry) (S : State), s₀.WarmedH S.vm → S.heap[a]? = some ce → (∀ y ∈ pre, hRow e.platform s₀ f.method.cls f.pc ce.cls false y) → ∃ vm', s₀.WarmedH vm' ∧ ∀ (Q : Handler → Pre) (E : CtlPost) (d : Bool) (acts : List Action), wp (findHandler.go f a (pre ++ x :: rest)) Q E e d acts S ↔ Q (.found x.handlerPc) d acts (S.setVm vm') := by
  obtain ⟨k6, h6⟩ := h6
  have one : ∀ (y : ExceptionTableEntry) (t : List ExceptionTableEntry) (b : Bool) (S : State), hRow e.platform s₀ f.method.cls f.pc ce.cls b y → s₀.WarmedH S.vm → S.heap[a]? = some ce → ∃ c, s₀.WarmedH (S.vm.noted f.method.cls y.catchType (.cls c)) ∧ ∀ (Q : Handler → Pre) (E : CtlPost) (d : Bool) (acts : List Action), (wp (findHandler.go f a (y :: t)) Q E e d acts S ↔ (if b = true then Q (.found y.handlerPc) d acts (S.setVm (S.vm.noted f.method.cls y.catchType (.cls c))) else wp (findHandler.go f a t) Q E e d acts (S.setVm (S.vm.noted f.method.cls y.catchType (.cls c))))) := by
    intro y t b S hy hW hS
    obtain ⟨y1, y2, c, y3, y4⟩ := hy
    obtain ⟨dk, _, _, kt, hd, _, _, _, _, hkt, _, hopen⟩ := y3.here
    obtain ⟨k6', h6', -⟩ := hW.alike.2.2 _ _ h6
    obtain ⟨kt', hkt', -⟩ := hW.alike.2.2 _ _ hkt
    exact ⟨c, hW.noted hd hopen (State.rightAt_cls y3), fun Q E d acts => hGo1 y1 y2 (hW.classLinks y3) hS h5 ⟨k6', h6'⟩ ⟨kt', hkt'⟩ b (by rw [hW.alike.assignable]; exact y4)⟩
  intro pre
  induction pre with
  | nil =>
    intro S hW hS _
    obtain ⟨c, hw, h⟩ := one x rest true S hx hW hS
    exact ⟨_, hw, h⟩
  | cons y ys ih =>
    intro S hW hS hp
    obtain ⟨c, hw, h⟩ := one y (ys ++ x :: rest) false S (hp y List.mem_cons_self) hW hS
    obtain ⟨vm', hw', h'⟩ := ih (S.setVm _) hw hS (fun z hz => hp z (List.mem_cons_of_mem _ hz))
    exact ⟨vm', hw', fun Q E d acts => (h Q E d acts).trans (h' Q E d acts)⟩
theorem hCaught {p : Program} {l : Launch} {e : Env} {R : Room} {s : State} {m : MethodId} {args : Array Value} {below : List Frame} {meth : Method} {c : Code} {T : State} {locs : List Loc} {cells slots : Nat} (Z : Stand p l e R s m args below meth c T locs cells slots) {a : Addr} {g : JFrame} (hg : g.method = m) {ce : Cell} (h4 : T.heap[a]? = some ce) (h5 : ce.vm = .none) (h6 : ∃ k, s.vm.classes[ce.cls]? = some k)
    (pre : List ExceptionTableEntry) (x : ExceptionTableEntry) (rest : List ExceptionTableEntry) (ht : c.exceptionTable.toList = pre ++ x :: rest) (hp : ∀ y ∈ pre, hRow e.platform s m.cls g.pc ce.cls false y) (hx : hRow e.platform s m.cls g.pc ce.cls true x) :
    ∃ vm', Stand p l e R s m args below meth c (T.setVm vm') locs cells slots ∧ ∀ target, Steps p.tables e below ((T.setVm vm').setTop { g with pc := x.handlerPc, stack := [.ref a] }) target → Steps p.tables e below ((T.setTop g).pushFrame (.throwing a)) target := by
  subst hg
  generalize hS : (T.setTop g).pushFrame (.throwing a) = S
  have hSv : S.vm = T.vm := by rw [← hS]; exact Stand.throwing_vm T g a
  have hSh : S.heap = T.heap := by rw [← hS]; exact Stand.throwing_heap T g a
  obtain ⟨vm', hw, hf⟩ := hGo (e := e) (s₀ := s) (f := g) (a := a) (ce := ce) (fun k => by rw [h5]; simp) h6 x rest hx pre S (by rw [hSv]; exact Z.warmed) (by rw [hSh]; exact h4) hp
  have hfind : ∀ (Q : Handler → Pre) (E : CtlPost) (d : Bool) (acts : List Action), wp (findHandler g a) Q E e d acts S ↔ Q (.found x.handlerPc) d acts (S.setVm vm') := fun Q E d acts => by
    rw [Jvm.W.findHandler_eq (meth := meth) (code := c) (by rw [hSv]; exact Z.method') Z.code, ht]; exact hf Q E d acts
  refine ⟨vm', Z.noted hw, fun target hrest => ?_⟩
  obtain ⟨hgo, hwi⟩ := Z.here.throwing a (g := g)
  have hst : ∀ r, (stepThrowing e S a (.java g :: r)).1 = (S.setVm vm').setFrames (.java { g with pc := x.handlerPc, stack := [.ref a] } :: r) := by
    intro r
    simp only [stepThrowing, searchFrame, vmDo]
    generalize hr : Sem.go _ e false [] S = res
    obtain ⟨as, rfl, -⟩ := Sem.eq_ok_of hr (a := Handler.found x.handlerPc) (s' := S.setVm vm') (acts' := []) (by simp [hfind _ _ _ _])
    rfl
  rw [← hS] at hst ⊢
  refine Steps.head hgo hwi ?_
  rw [stepThread_throwing (frames_entered Z.here.top _), hst]
  obtain ⟨g₀, hg0⟩ := Option.isSome_iff_exists.mp Z.here.top
  obtain ⟨r, hr⟩ := State.topJava?_eq_some.mp hg0
  have hr' : (T.setVm vm').frames = .java g₀ :: r := hr
  have e1 : ∀ (u : State) (F G : List Frame), ((u.setFrames F).setVm vm').setFrames G = (u.setVm vm').setFrames G := fun u F G => by
    rw [show (u.setFrames F).setVm vm' = (u.setVm vm').setFrames F from rfl, State.setFrames_setFrames]
  rw [State.setTop_of_frames _ hr'] at hrest
  rw [hr, List.tail_cons, State.pushFrame, e1, State.setTop_of_frames _ hr, e1]
  exact hrest
