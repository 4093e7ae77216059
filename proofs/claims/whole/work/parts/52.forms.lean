/-! contracts that lean on statics (the list's empty table, Throwable's own), on mirrors and on the words of a throw -/
abbrev sDN : String := "DEFAULTCAPACITY_EMPTY_ELEMENTDATA"
abbrev sDD : String := "[Ljava/lang/Object;"
abbrev Ge (N : Nat) : Nat → Prop := fun q => N ≤ q
def EX (N t0 mi : Nat) (U : State) : Prop := TH N U ∧ va_Z R_A sDN sDD (.ref t0) (Ge N) U U.heap ∧ va_T (.object R_O) t0 0 (fun _ => .null) (Ge N) U U.heap ∧ va_AO R_O U ∧ va_Mi sDD mi U
theorem EX.move {N t0 mi : Nat} {s U : State} (h : EX N t0 mi s) (hW : s.WarmedH U.vm) (hh : ∀ a : Nat, a < N → U.heap[a]? = s.heap[a]?) : EX N t0 mi U :=
  ⟨h.1.move hW hh, (va_Z.moved hW.alike h.2.1).kept (fun a _ hn => hh a (Nat.lt_of_not_le hn)), (va_T.moved hW.alike h.2.2.1).kept (fun a _ hn => hh a (Nat.lt_of_not_le hn)), va_AO.moved hW.alike h.2.2.2.1, va_Mi.moved hW.alike h.2.2.2.2⟩
theorem EX.calling {N t0 mi : Nat} {U : State} (h : EX N t0 mi U) (g : JFrame) (mk : MethodId) (a : Array Value) : EX N t0 mi (U.calling g mk a) := h.move (State.WarmedH.refl U) (fun _ _ => rfl)
def PX (D : va_G) (cI cL cO : ClassId) (N t0 mi : Nat) (av : List Value) (sz : Nat) (w0 : va_W) : Array Value → State → Prop := va_Pc av (fun U => U.heap.size = sz ∧ va_P D vwCl w0 U.heap ∧ KW D cI cL cO U ∧ va_D (Ge N) w0 ∧ N ≤ sz ∧ EX N t0 mi U)
theorem PX.bl {D : va_G} {cI cL cO : ClassId} {N t0 mi : Nat} {av : List Value} {sz : Nat} {w0 : va_W} : FrameBlind (PX D cI cL cO N t0 mi av sz w0) := fun a U g mk q => ⟨q.1, q.2.1, q.2.2.1, q.2.2.2.1.calling g mk a, q.2.2.2.2.1, q.2.2.2.2.2.1, q.2.2.2.2.2.2.calling g mk a⟩
theorem PX.pre {D : va_G} {cI cL cO : ClassId} {N t0 mi : Nat} {av : List Value} {w0 : va_W} {s : State} {H : Heap} {A : Nat → Prop} {locs : List Loc} (hP : va_P D vwCl w0 H) (hD : va_D A w0) (hK : KW D cI cL cO s) (hE : EX N t0 mi s) (hS : va_S A s.heap H locs) (hAN : ∀ q, A q → N ≤ q) (hN : N ≤ s.heap.size) (U : State) (hU : U.heap = H) (hW : s.WarmedH U.vm) : PX D cI cL cO N t0 mi av H.size w0 av.toArray U :=
  ⟨rfl, by rw [hU], by rw [hU]; exact hP, hK.warm hW, hD.weaken (fun _ _ _ h => hAN _ h), Nat.le_trans hN hS.1, hE.move hW (fun a ha => by rw [hU]; exact hS.2.1 a (Nat.lt_of_lt_of_le ha hN) (fun z => absurd (hAN a z) (by omega)))⟩
abbrev CXv (l : Launch) (y : MethodName) (ws : List Cond) (rm : Room) (D : va_G) (cI cL cO : ClassId) (N t0 mi : Nat) (av : List Value) (w0 : va_W) {S : Type} (post : S → Prop) (w1 : S → va_W) (mc ms : Nat) : Prop := ∀ sz : Nat, Met l y ws rm (PX D cI cL cO N t0 mi av sz w0) (va_Qv post (QB D w1 (va_A w0 sz)) (va_A w0 sz)) mc ms (va_A w0 sz)
abbrev CXi (l : Launch) (y : MethodName) (ws : List Cond) (rm : Room) (D : va_G) (cI cL cO : ClassId) (N t0 mi : Nat) (av : List Value) (w0 : va_W) {S : Type} (post : Int32 → S → Prop) (w1 : S → va_W) (mc ms : Nat) : Prop := ∀ sz : Nat, Met l y ws rm (PX D cI cL cO N t0 mi av sz w0) (va_Qi post (QB D w1 (va_A w0 sz)) (va_A w0 sz)) mc ms (va_A w0 sz)
def QR (D : va_G) (w1 : Nat → va_W) (A : Nat → Prop) : Unit → Nat → State → Prop := fun _ a t => va_P D vwCl (w1 a) t.heap ∧ va_D A (w1 a)
abbrev CXr (l : Launch) (y : MethodName) (ws : List Cond) (rm : Room) (D : va_G) (cI cL cO : ClassId) (N t0 mi : Nat) (av : List Value) (w0 : va_W) (w1 : Nat → va_W) (mc ms : Nat) : Prop := ∀ sz : Nat, Met l y ws rm (PX D cI cL cO N t0 mi av sz w0) (va_Qr (fun _ : Unit => True) (QR D w1 (va_A w0 sz)) (va_A w0 sz)) mc ms (va_A w0 sz)
theorem ofX {l : Launch} {y : MethodName} {ws ws' : List Cond} {rm : Room} {D : va_G} {cI cL cO : ClassId} {N t0 mi : Nat} {av : List Value} {w0 : va_W} {Qc : (Nat → Prop) → Array Value → State → Outcome → State → Prop} {cc : ByteArray} {maxL : Nat} {ret : Option FieldType} {mc ms : Nat}
    (hy : plainName y.cls = true) (hw : ws = Cond.code y cc maxL ret :: ws') (hn : (lg_sl av).length ≤ maxL)
    (body : ∀ (p : Program) (e : Env) (s : State) (m : MethodId) (below : List Frame) (meth : Method) (c : Code) (A : Nat → Prop) (ls : Array Slot) (H : Heap) (Q : State → Prop), Q = MQ below (Qc A) av.toArray s mc ms A → p.tables.exec = Jvm.exec → c.code = cc → meth.sig.returnType = ret → meth.locks = false → (meth.name = y.name) → (∀ w ∈ ws, w.before av.toArray s = true) → s.vm.findClass y.cls = some m.cls → c.maxLocals = maxL → va_P D vwCl w0 H → KW D cI cL cO s → va_D A w0 → va_S A s.heap H [] → (∀ q : Nat, s.heap.size ≤ q → A q) → lv_has ls maxL (lv_args 0 av) → EX N t0 mi s → N ≤ s.heap.size → (∀ q, A q → N ≤ q) →
      W p l e rm s m av.toArray below meth c H [] 0 0 Q (F0 m 0 ls [])) (sz : Nat) : Met l y ws rm (PX D cI cL cO N t0 mi av sz w0) (Qc (va_A w0 sz)) mc ms (va_A w0 sz) := by
  refine Met.ofW (cc := cc) (maxL := maxL) (ret := ret) hy hw ?_
  intro p e s m args below meth c s₁ B hml hv
  obtain ⟨rfl, hsz, hP, hK, hD0, hN, hE⟩ := hv
  subst hsz
  have hl := lv_entry av (n := maxL) hn
  rw [lg_entry_eq]
  generalize (lg_sl av ++ List.replicate (maxL - (lg_sl av).length) Slot.unset).toArray = ls at hl ⊢
  exact body p e s m below meth c _ ls s.heap _ rfl B.exec B.bytes B.returns B.notSynchronized (name_of_methodNamed B.named B.method).1 (atoms_spec (ws := ws) B.pre) (findClass_of_methodNamed B.named) hml hP hK (hD0.self (sz := s.heap.size)) va_S.rf (fun q h => Or.inr h) hl hE hN (fun q h => by
    rcases h with ⟨k, e, h⟩ | h
    · exact hD0.2 k _ h
    · exact Nat.le_trans hN h)
theorem ofXv {S : Type} {post : S → Prop} {w1 : S → va_W} {l : Launch} {y : MethodName} {ws ws' : List Cond} {rm : Room} {D : va_G} {cI cL cO : ClassId} {N t0 mi : Nat} {av : List Value} {w0 : va_W} {cc : ByteArray} {maxL : Nat} {ret : Option FieldType} {mc ms : Nat}
    (hy : plainName y.cls = true) (hw : ws = Cond.code y cc maxL ret :: ws') (hn : (lg_sl av).length ≤ maxL)
    (body : ∀ (p : Program) (e : Env) (s : State) (m : MethodId) (below : List Frame) (meth : Method) (c : Code) (A : Nat → Prop) (ls : Array Slot) (H : Heap) (Q : State → Prop), Q = MQ below (va_Qv post (QB D w1 A) A) av.toArray s mc ms A → p.tables.exec = Jvm.exec → c.code = cc → meth.sig.returnType = ret → meth.locks = false → (meth.name = y.name) → (∀ w ∈ ws, w.before av.toArray s = true) → s.vm.findClass y.cls = some m.cls → c.maxLocals = maxL → va_P D vwCl w0 H → KW D cI cL cO s → va_D A w0 → va_S A s.heap H [] → (∀ q : Nat, s.heap.size ≤ q → A q) → lv_has ls maxL (lv_args 0 av) → EX N t0 mi s → N ≤ s.heap.size → (∀ q, A q → N ≤ q) →
      W p l e rm s m av.toArray below meth c H [] 0 0 Q (F0 m 0 ls [])) : CXv l y ws rm D cI cL cO N t0 mi av w0 post w1 mc ms := fun sz => ofX (Qc := fun A => va_Qv post (QB D w1 A) A) hy hw hn body sz
theorem ofXi {S : Type} {post : Int32 → S → Prop} {w1 : S → va_W} {l : Launch} {y : MethodName} {ws ws' : List Cond} {rm : Room} {D : va_G} {cI cL cO : ClassId} {N t0 mi : Nat} {av : List Value} {w0 : va_W} {cc : ByteArray} {maxL : Nat} {ret : Option FieldType} {mc ms : Nat}
    (hy : plainName y.cls = true) (hw : ws = Cond.code y cc maxL ret :: ws') (hn : (lg_sl av).length ≤ maxL)
    (body : ∀ (p : Program) (e : Env) (s : State) (m : MethodId) (below : List Frame) (meth : Method) (c : Code) (A : Nat → Prop) (ls : Array Slot) (H : Heap) (Q : State → Prop), Q = MQ below (va_Qi post (QB D w1 A) A) av.toArray s mc ms A → p.tables.exec = Jvm.exec → c.code = cc → meth.sig.returnType = ret → meth.locks = false → (meth.name = y.name) → (∀ w ∈ ws, w.before av.toArray s = true) → s.vm.findClass y.cls = some m.cls → c.maxLocals = maxL → va_P D vwCl w0 H → KW D cI cL cO s → va_D A w0 → va_S A s.heap H [] → (∀ q : Nat, s.heap.size ≤ q → A q) → lv_has ls maxL (lv_args 0 av) → EX N t0 mi s → N ≤ s.heap.size → (∀ q, A q → N ≤ q) →
      W p l e rm s m av.toArray below meth c H [] 0 0 Q (F0 m 0 ls [])) : CXi l y ws rm D cI cL cO N t0 mi av w0 post w1 mc ms := fun sz => ofX (Qc := fun A => va_Qi post (QB D w1 A) A) hy hw hn body sz
theorem ofXr {w1 : Nat → va_W} {l : Launch} {y : MethodName} {ws ws' : List Cond} {rm : Room} {D : va_G} {cI cL cO : ClassId} {N t0 mi : Nat} {av : List Value} {w0 : va_W} {cc : ByteArray} {maxL : Nat} {ret : Option FieldType} {mc ms : Nat}
    (hy : plainName y.cls = true) (hw : ws = Cond.code y cc maxL ret :: ws') (hn : (lg_sl av).length ≤ maxL)
    (body : ∀ (p : Program) (e : Env) (s : State) (m : MethodId) (below : List Frame) (meth : Method) (c : Code) (A : Nat → Prop) (ls : Array Slot) (H : Heap) (Q : State → Prop), Q = MQ below (va_Qr (fun _ : Unit => True) (QR D w1 A) A) av.toArray s mc ms A → p.tables.exec = Jvm.exec → c.code = cc → meth.sig.returnType = ret → meth.locks = false → (meth.name = y.name) → (∀ w ∈ ws, w.before av.toArray s = true) → s.vm.findClass y.cls = some m.cls → c.maxLocals = maxL → va_P D vwCl w0 H → KW D cI cL cO s → va_D A w0 → va_S A s.heap H [] → (∀ q : Nat, s.heap.size ≤ q → A q) → lv_has ls maxL (lv_args 0 av) → EX N t0 mi s → N ≤ s.heap.size → (∀ q, A q → N ≤ q) →
      W p l e rm s m av.toArray below meth c H [] 0 0 Q (F0 m 0 ls [])) : CXr l y ws rm D cI cL cO N t0 mi av w0 w1 mc ms := fun sz => ofX (Qc := fun A => va_Qr (fun _ : Unit => True) (QR D w1 A) A) hy hw hn body sz
/-- a method that only reads, and answers a value -/
def SV (v : Value) : Array Value → State → Outcome → State → Prop := fun _ st o t => o = .returned (some v) ∧ t.heap = st.heap
abbrev CRv (l : Launch) (y : MethodName) (ws : List Cond) (rm : Room) (D : va_G) (cI cL cO : ClassId) (av : List Value) (w0 : va_W) (v : Value) : Prop := Met l y ws rm (PR D cI cL cO av w0) (SV v) 0 0 NoF
section EndsX
variable {p : Program} {l : Launch} {e : Env} {R : Room} {s : State} {m : MethodId} {args : Array Value} {below : List Frame} {meth : Method} {c : Code} {H : Heap} {locs : List Loc} {cells slots : Nat} {Q : State → Prop}
variable {cc : ByteArray} {pc : Nat} {ls : Array Slot} {D : va_G} {A : Nat → Prop} {st0 rest : List Value} {mc ms : Nat} {a : Array Value} {w0 : va_W}
theorem goRv {v : Value} (hr : va_Run p l e R s m args below meth c H locs cells slots 0 0 (F0 m pc ls st0) rest (SV v a) NoF)
    (kk : W p l e R s m args below meth c H locs cells slots Q (F0 m (pc + 3) ls (v :: rest))) : W p l e R s m args below meth c H locs cells slots Q (F0 m pc ls st0) := by
  intro T hT X
  obtain ⟨v', st, t, T', L, h0, X', hL, e1, e2, ⟨hv, hh⟩, go⟩ := hr T hT X
  cases hv
  have eL : L = [] := List.eq_nil_iff_forall_not_mem.mpr (fun q hq => hL q hq)
  subst eL
  rw [List.append_nil] at X'
  obtain ⟨t2, a1, b1⟩ := kk T' (by rw [e1, hh, h0]) X'
  exact ⟨t2, go t2 a1, b1⟩
theorem retRv {v v0 : Value} {rt : FieldType} (hx : p.tables.exec = Jvm.exec) (hb : c.code = cc) (hr : meth.sig.returnType = some rt) (hrt : (∃ n, rt = .object n) ∨ ∃ t, rt = .array t) (hv : v = .null ∨ ∃ a, v = .ref a) (hlocks : meth.locks = false) (ev : v = v0) (hd : decode cc pc = .ok (.areturn, 1)) : W p l e R s m args below meth c s.heap [] 0 0 (MQ below (SV v0) args s 0 0 NoF) (F0 m pc ls [v]) :=
  W.aret hx hb hr hrt hv (fun t ht _ => ⟨by rw [ev], ht⟩) (fun q h => by cases h) hd hlocks
theorem retMr {w1 : Nat → va_W} {v : Nat} {rt : FieldType} (hx : p.tables.exec = Jvm.exec) (hb : c.code = cc) (hr : meth.sig.returnType = some rt) (hrt : (∃ n, rt = .object n) ∨ ∃ t, rt = .array t) (hlocks : meth.locks = false) (hP : va_P D vwCl (w1 v) H) (hD : va_D A (w1 v)) (hS : va_S A s.heap H locs) (hd : decode cc pc = .ok (.areturn, 1)) : W p l e R s m args below meth c H locs cells slots (MQ below (va_Qr (fun _ : Unit => True) (QR D w1 A) A) args s cells slots A) (F0 m pc ls [.ref v]) :=
  W.aret hx hb hr hrt (Or.inr ⟨v, rfl⟩) (fun t ht _ => ⟨⟨(), v, rfl, trivial, by rw [ht]; exact hP, hD⟩, hS.F ht⟩) hS.2.2 hd hlocks
theorem goMr {w1 : Nat → va_W} (hr : va_Run p l e R s m args below meth c H locs cells slots mc ms (F0 m pc ls st0) rest (va_Qr (fun _ : Unit => True) (QR D w1 (va_A w0 H.size)) (va_A w0 H.size) a) (va_A w0 H.size)) (hD : va_D A w0) (hS : va_S A s.heap H locs) (hA : ∀ q : Nat, s.heap.size ≤ q → A q)
    (kk : ∀ (r : Nat) (H1 : Heap) (locs1 : List Loc), va_P D vwCl (w1 r) H1 → va_D A (w1 r) → va_S A s.heap H1 locs1 → W p l e R s m args below meth c H1 locs1 (cells + mc) (slots + ms) Q (F0 m (pc + 3) ls (.ref r :: rest))) : W p l e R s m args below meth c H locs cells slots Q (F0 m pc ls st0) :=
  va_callr hr hS (fun q _ h => A_in hD hS hA q h) (A_in hD hS hA) (fun u r t H1 locs1 ht _ hw hB _ _ hS1 => kk r H1 locs1 (by rw [← ht]; exact hB.1) (hB.2.weaken (fun _ q _ h => A_in hD hS hA q.1 h)) hS1)
end EndsX
/-- a method that throws -/
abbrev CT (l : Launch) (y : MethodName) (ws : List Cond) (rm : Room) (D : va_G) (cI cL cO : ClassId) (N t0 mi : Nat) (av : List Value) (w0 : va_W) (X : String) {S : Type} (w1 : S → va_W) (mc ms : Nat) : Prop := ∀ sz : Nat, Thr l y ws rm (PX D cI cL cO N t0 mi av sz w0) X (fun H1 => ∃ u : S, va_P D vwCl (w1 u) H1 ∧ va_D (va_A w0 sz) (w1 u)) mc ms (va_A w0 sz)
theorem ofT {S : Type} {w1 : S → va_W} {X : String} {l : Launch} {y : MethodName} {ws ws' : List Cond} {rm : Room} {D : va_G} {cI cL cO : ClassId} {N t0 mi : Nat} {av : List Value} {w0 : va_W} {cc : ByteArray} {maxL : Nat} {ret : Option FieldType} {mc ms : Nat}
    (hy : plainName y.cls = true) (hw : ws = Cond.code y cc maxL ret :: ws') (hn : (lg_sl av).length ≤ maxL)
    (body : ∀ (p : Program) (e : Env) (s : State) (m : MethodId) (below : List Frame) (meth : Method) (c : Code) (A : Nat → Prop) (ls : Array Slot) (H : Heap) (Q : State → Prop), Q = TQ below X (fun H1 => ∃ u : S, va_P D vwCl (w1 u) H1 ∧ va_D A (w1 u)) s mc ms A → p.tables.exec = Jvm.exec → c.code = cc → meth.sig.returnType = ret → meth.locks = false → c.exceptionTable.isEmpty = true → (∀ w ∈ ws, w.before av.toArray s = true) → s.vm.findClass y.cls = some m.cls → c.maxLocals = maxL → va_P D vwCl w0 H → KW D cI cL cO s → va_D A w0 → va_S A s.heap H [] → (∀ q : Nat, s.heap.size ≤ q → A q) → lv_has ls maxL (lv_args 0 av) → EX N t0 mi s → N ≤ s.heap.size → (∀ q, A q → N ≤ q) →
      W p l e rm s m av.toArray below meth c H [] 0 0 Q (F0 m 0 ls [])) : CT l y ws rm D cI cL cO N t0 mi av w0 X w1 mc ms := by
  intro sz
  refine Thr.ofW (cc := cc) (maxL := maxL) (ret := ret) hy hw ?_
  intro p e s m args below meth c s₁ B hml hv
  obtain ⟨rfl, hsz, hP, hK, hD0, hN, hE⟩ := hv
  subst hsz
  have hl := lv_entry av (n := maxL) hn
  rw [lg_entry_eq]
  generalize (lg_sl av ++ List.replicate (maxL - (lg_sl av).length) Slot.unset).toArray = ls at hl ⊢
  have hts := atoms_spec (ws := ws) B.pre
  exact body p e s m below meth c _ ls s.heap _ rfl B.exec B.bytes B.returns B.notSynchronized (B.noHandlers (hts _ (by rw [hw]; exact List.mem_cons_self))) hts (findClass_of_methodNamed B.named) hml hP hK (hD0.self (sz := s.heap.size)) va_S.rf (fun q h => Or.inr h) hl hE hN (fun q h => by
    rcases h with ⟨k, e, h⟩ | h
    · exact hD0.2 k _ h
    · exact Nat.le_trans hN h)
theorem P_up {D : va_G} {cl : List vw_C} {w : va_W} {H H1 : Heap} (hP : va_P D cl w H) (h : ∀ (a : Nat) (k : Cell), H[a]? = some k → H1[a]? = some k) : va_P D cl w H1 :=
  hP.kept (fun k x hx => by
    have hlt := (hP k x hx).lt
    rw [Array.getElem?_eq_getElem hlt]
    exact h _ _ (Array.getElem?_eq_getElem hlt))
