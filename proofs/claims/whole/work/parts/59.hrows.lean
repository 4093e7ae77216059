/-! methods of the law that catch: their form, the catch as a row, their call; a contract under a consequence -/
abbrev eU : String := "java/lang/UnsupportedOperationException"
abbrev eA : String := "java/lang/IllegalArgumentException"
abbrev eS : String := "java/lang/IllegalStateException"
abbrev eX : String := "java/lang/IndexOutOfBoundsException"
def NCf : List (String × String) := [(eX, eU), (eA, eU), (eS, eU), (eU, eX), (eA, eX), (eS, eX), (eU, eA), (eX, eA), (eS, eA), (eU, eS), (eX, eS), (eA, eS)]
def NC (U : State) : Prop := ∀ q ∈ NCf, ∀ c t : ClassId, U.vm.findClass q.1 = some c → U.vm.findClass q.2 = some t → U.vm.assignable c t = false
theorem NC.move {s U : State} (h : NC s) (hW : s.WarmedH U.vm) : NC U := fun q hq c t h1 h2 => by
  rw [hW.alike.findClass] at h1 h2
  rw [hW.alike.assignable]
  exact h q hq c t h1 h2
theorem NC.calling {U : State} (h : NC U) (g : JFrame) (mk : MethodId) (a : Array Value) : NC (U.calling g mk a) := h.move (State.WarmedH.refl U)
def PH (D : va_G) (cI cL cO : ClassId) (N t0 mi : Nat) (av : List Value) (sz : Nat) (w0 : va_W) : Array Value → State → Prop := va_Pc av (fun U => (U.heap.size = sz ∧ va_P D vwCl w0 U.heap ∧ KW D cI cL cO U ∧ va_D (Ge N) w0 ∧ N ≤ sz ∧ EX N t0 mi U) ∧ NC U)
theorem PH.bl {D : va_G} {cI cL cO : ClassId} {N t0 mi : Nat} {av : List Value} {sz : Nat} {w0 : va_W} : FrameBlind (PH D cI cL cO N t0 mi av sz w0) := fun a U g mk q => ⟨q.1, ⟨q.2.1.1, q.2.1.2.1, q.2.1.2.2.1.calling g mk a, q.2.1.2.2.2.1, q.2.1.2.2.2.2.1, q.2.1.2.2.2.2.2.calling g mk a⟩, q.2.2.calling g mk a⟩
theorem PH.pre {D : va_G} {cI cL cO : ClassId} {N t0 mi : Nat} {av : List Value} {w0 : va_W} {s : State} {H : Heap} {A : Nat → Prop} {locs : List Loc} (hP : va_P D vwCl w0 H) (hD : va_D A w0) (hK : KW D cI cL cO s) (hE : EX N t0 mi s) (hNC : NC s) (hS : va_S A s.heap H locs) (hAN : ∀ q, A q → N ≤ q) (hN : N ≤ s.heap.size) (U : State) (hU : U.heap = H) (hW : s.WarmedH U.vm) : PH D cI cL cO N t0 mi av H.size w0 av.toArray U :=
  ⟨rfl, (PX.pre (av := av) hP hD hK hE hS hAN hN U hU hW).2, hNC.move hW⟩
abbrev CHi (l : Launch) (y : MethodName) (ws : List Cond) (rm : Room) (D : va_G) (cI cL cO : ClassId) (N t0 mi : Nat) (av : List Value) (w0 : va_W) {S : Type} (post : Int32 → S → Prop) (w1 : S → va_W) (mc ms : Nat) : Prop := ∀ sz : Nat, Met l y ws rm (PH D cI cL cO N t0 mi av sz w0) (va_Qi post (QB D w1 (va_A w0 sz)) (va_A w0 sz)) mc ms (va_A w0 sz)
theorem ofH {S : Type} {post : Int32 → S → Prop} {w1 : S → va_W} {l : Launch} {y : MethodName} {ws ws' : List Cond} {rm : Room} {D : va_G} {cI cL cO : ClassId} {N t0 mi : Nat} {av : List Value} {w0 : va_W} {cc : ByteArray} {maxL : Nat} {ret : Option FieldType} {hh : List (Nat × Nat × Nat × Nat)} {mc ms : Nat}
    (hy : plainName y.cls = true) (hw : ws = Cond.codeWith y cc maxL ret hh :: ws') (hn : (lg_sl av).length ≤ maxL)
    (body : ∀ (p : Program) (e : Env) (s : State) (m : MethodId) (below : List Frame) (meth : Method) (c : Code) (A : Nat → Prop) (ls : Array Slot) (H : Heap) (Q : State → Prop), Q = MQ below (va_Qi post (QB D w1 A) A) av.toArray s mc ms A → p.tables.exec = Jvm.exec → c.code = cc → meth.sig.returnType = ret → meth.locks = false → c.exceptionTable.toList.map (fun h => (h.startPc, h.endPc, h.handlerPc, h.catchType)) = hh → (∀ w ∈ ws, w.before av.toArray s = true) → s.vm.findClass y.cls = some m.cls → c.maxLocals = maxL → va_P D vwCl w0 H → KW D cI cL cO s → va_D A w0 → va_S A s.heap H [] → (∀ q : Nat, s.heap.size ≤ q → A q) → lv_has ls maxL (lv_args 0 av) → EX N t0 mi s → N ≤ s.heap.size → (∀ q, A q → N ≤ q) → NC s →
      W p l e rm s m av.toArray below meth c H [] 0 0 Q (F0 m 0 ls [])) : CHi l y ws rm D cI cL cO N t0 mi av w0 post w1 mc ms := by
  intro sz
  refine va_MetW (cc := cc) (maxL := maxL) (ret := ret) (hh := hh) hy hw ?_
  intro p e s m args below meth c s₁ B hml hv
  obtain ⟨rfl, ⟨hsz, hP, hK, hD0, hN, hE⟩, hNC⟩ := hv
  subst hsz
  have hl := lv_entry av (n := maxL) hn
  rw [lg_entry_eq]
  generalize (lg_sl av ++ List.replicate (maxL - (lg_sl av).length) Slot.unset).toArray = ls at hl ⊢
  have hts := atoms_spec (ws := ws) B.pre
  have htab : c.exceptionTable.toList.map (fun h => (h.startPc, h.endPc, h.handlerPc, h.catchType)) = hh := by
    obtain ⟨m9, meth9, c9, h1, h2, h3, -, -, h4, -⟩ := Cond.codeWith_spec (hts _ (by rw [hw]; exact List.mem_cons_self))
    cases B.named.symm.trans h1
    cases B.method.symm.trans h2
    cases (Stand.of_body B).code.symm.trans h3
    exact h4
  exact body p e s m below meth c _ ls s.heap _ rfl B.exec B.bytes B.returns B.notSynchronized htab hts (findClass_of_methodNamed B.named) hml hP hK (hD0.self (sz := s.heap.size)) va_S.rf (fun q h => Or.inr h) hl hE hN (fun q h => by
    rcases h with ⟨k, e, h⟩ | h
    · exact hD0.2 k _ h
    · exact Nat.le_trans hN h) hNC
section CatchT
variable {p : Program} {l : Launch} {e : Env} {R : Room} {s : State} {m : MethodId} {args : Array Value} {below : List Frame} {meth : Method} {c : Code} {H : Heap} {locs : List Loc} {cells slots mc ms : Nat} {Q : State → Prop} {pc : Nat} {ls : Array Slot} {st0 rest : List Value} {X : String} {Qh : Heap → Prop} {free A : Nat → Prop} {N : Nat}
/-- a call that throws what this method catches -/
theorem goT (hr : RunT p l e R s m args below meth c H locs cells slots mc ms (F0 m pc ls st0) rest X Qh free) (hS : va_S A s.heap H locs) (hA : ∀ q, free q → A q) (hown : s.vm.findClass R_L = some m.cls) (ht : ∀ w ∈ BIG, w.before args s = true) (hNC : NC s) (hT : TH N s)
    (pre : List (Nat × Nat × Nat × Nat)) (x : Nat × Nat × Nat × Nat) (tl : List (Nat × Nat × Nat × Nat)) (htab : c.exceptionTable.toList.map (fun h => (h.startPc, h.endPc, h.handlerPc, h.catchType)) = pre ++ x :: tl)
    (hpre : ∀ y ∈ pre, (y.1 ≤ pc ∧ pc < y.2.1) ∧ y.2.2.2 ≠ 0 ∧ ∃ Y, Cond.classLink R_L y.2.2.2 Y ∈ BIG ∧ (X, Y) ∈ NCf) (hx : (x.1 ≤ pc ∧ pc < x.2.1) ∧ x.2.2.2 ≠ 0 ∧ Cond.classLink R_L x.2.2.2 X ∈ BIG) (hXX : Cond.castable X X ∈ tw_l)
    (kk : ∀ (a : Nat) (H1 : Heap) (locs1 : List Loc), Qh H1 → va_S A s.heap H1 locs1 → W p l e R s m args below meth c H1 locs1 (cells + mc) (slots + ms) Q (F0 m x.2.2.1 ls [.ref a])) : W p l e R s m args below meth c H locs cells slots Q (F0 m pc ls st0) := by
  intro T hTH Z
  obtain ⟨q, ce, T', L, X', hL, h1, h2, h3, h4, h5, h6, st⟩ := hr T hTH Z
  have hpl : e.platform.magicAccessors = ({} : Platform).magicAccessors := by rw [Z.admits.platform]
  obtain ⟨l1, l2, e1, e2, e3⟩ := List.map_eq_append_iff.mp htab
  obtain ⟨en, l3, rfl, e4, e5⟩ := List.map_eq_cons_iff.mp e3
  obtain ⟨cX, f1, f2⟩ := Cond.classLink_spec hown (ht _ hx.2.2) e.platform hpl
  cases h2.symm.trans f1
  have hk : ∃ k, s.vm.classes[ce.cls]? = some k := by
    obtain ⟨dk, _, _, kt, hd, _, _, _, _, hkt, _, hopen⟩ := f2.here
    exact ⟨kt, hkt⟩
  have hXt : s.vm.assignable ce.cls ce.cls = true := by
    obtain ⟨c1, t1, g1, g2, g3⟩ := Cond.castable_spec (hT.1 _ hXX)
    cases h2.symm.trans g1
    cases h2.symm.trans g2
    exact g3
  have hrow1 : hRow e.platform s m.cls pc ce.cls true en := by
    subst e4
    refine ⟨by simp only [covers, Bool.and_eq_true, decide_eq_true_eq]; exact hx.1, hx.2.1, ce.cls, f2, hXt⟩
  have hrow0 : ∀ y ∈ l1, hRow e.platform s m.cls pc ce.cls false y := by
    intro y hy
    obtain ⟨a1, a2, Y, a3, a4⟩ := hpre _ (by rw [← e2]; exact List.mem_map_of_mem hy)
    obtain ⟨cY, b1, b2⟩ := Cond.classLink_spec hown (ht _ a3) e.platform hpl
    exact ⟨by simp only [covers, Bool.and_eq_true, decide_eq_true_eq]; exact a1, a2, cY, b2, hNC _ a4 _ _ h2 b1⟩
  obtain ⟨vm', Z', go⟩ := hCaught X' (a := q) (g := { F0 m pc ls st0 with stack := rest }) rfl h1 h3 hk l1 en l3 e1 hrow0 hrow1
  have hS1 : va_S A s.heap T'.heap (locs ++ L) := by
    refine ⟨Nat.le_trans hS.1 h5, fun a ha hna => ?_, fun z hz => ?_⟩
    · rw [h6 a (Nat.lt_of_lt_of_le ha hS.1) (fun hf => hna (hA a hf))]
      exact hS.2.1 a ha hna
    · rcases List.mem_append.mp hz with h | h
      · exact hS.2.2 z h
      · exact hA _ (hL z h)
  obtain ⟨t2, a1, b1⟩ := kk q T'.heap (locs ++ L) h4 hS1 (T'.setVm vm') rfl Z'
  refine ⟨t2, st _ (go _ ?_), b1⟩
  subst e4
  exact a1
end CatchT
section CallSW
variable {p : Program} {l : Launch} {e : Env} {R : Room} {s : State} {m : MethodId} {args : Array Value} {below : List Frame} {meth : Method} {c : Code} {H : Heap} {locs : List Loc} {cells slots : Nat}
variable {y : MethodName} {bytes cc : ByteArray} {maxL nL mc ms n index : Nat} {ret : Option FieldType} {hh : List (Nat × Nat × Nat × Nat)} {ws : List Cond} {rm : Room} {Pc : Array Value → State → Prop} {Qc : Array Value → State → Outcome → State → Prop} {free : Nat → Prop} {own : String} {As rest : List Value} {g : JFrame}
theorem runSW (hx : p.tables.exec = Jvm.exec) (hb : c.code = cc) (hml : c.maxLocals = nL) (ho : s.vm.findClass own = some m.cls) (hM : Met l y ws rm Pc Qc mc ms free) (hrc : rm.cells = mc) (hrs : rm.slots = ms) (hR : rm.frames + 1 ≤ R.frames ∧ 8 + (maxL + 11) + rm.locals ≤ R.locals)
    (hws : ∀ w ∈ ws, ∀ (a' : Array Value) (U : State), s.WarmedH U.vm → w.before a' U = true) (hcw : Cond.codeWith y bytes maxL ret hh ∈ ws) (hcode : (Cond.codeWith y bytes maxL ret hh).before args s = true) (hini : Cond.initialized y.cls ∈ BIG) (ht : ∀ w ∈ BIG, w.before args s = true) (hy : y.cls ≠ "java/lang/invoke/MethodHandle" ∧ y.cls ≠ "java/lang/invoke/VarHandle") (hlen : (parseMethodDescriptor y.desc).map (fun d => d.parameters.length) = some n) (hlk : (Cond.methodLink own index y).before args s = true) (hstt : (Cond.static y).before args s = true) (hp : PreS s H Pc As)
    (hg : g.method = m) (hn : As.length = n) (hsize : g.locals.size = nL) (hstack : g.stack = As.reverse ++ rest) (hW : 2 * g.monitorRoom + (rest.map fun v => v.category).sum ≤ 8) (hdg : decode cc g.pc = .ok (.invokestatic index, 3)) (hf : cells + mc ≤ R.cells ∧ slots + ms ≤ R.slots) :
    va_Run p l e R s m args below meth c H locs cells slots mc ms g rest (Qc As.toArray) (free) := by
  have hK : Back l R p e below s args y 3 8 (PreOf R mc ms Pc) (PostOf Qc mc ms free) := va_backW (hh := hh) (bytes := bytes) (maxL := maxL) (ret := ret) hM hp.1 hrc hrs hR.1 hR.2 hws hcw (fun a' U hW => gBIG_move hW hini (ht _ hini))
  intro T hT X
  obtain ⟨mk, methM, cM, hnamed, hmethM, -, -, -, -, -, -, hsigM⟩ := Cond.codeWith_spec hcode
  have hstatic : methM.isStatic = true := Cond.static_spec hnamed hmethM hstt
  obtain ⟨kP, hkP, -⟩ := className_of_methodNamed hnamed
  have hinitP : kP.init = .initialized := Cond.initialized_spec (findClass_of_methodNamed hnamed) hkP (ht _ hini)
  have hl9 : As.length = methM.sig.parameters.length := by
    rw [hsigM] at hlen
    rw [hn]; exact (Option.some.inj hlen).symm
  subst hb; subst hml
  obtain ⟨vm₁, X₁, hstep₁⟩ := X.invokestatic hx ho hlk hnamed hmethM hstatic hkP hinitP hy (g := g) hg (argsL := As) (rest := rest) hl9 hstack hdg
  obtain ⟨v, ⟨U', l2, c2, s2⟩, X', ⟨g', mk', t, L, e1, e2, hq, h1, hL, h2, h3⟩, hsteps⟩ := hK m meth c ⟨T.setVm vm₁, locs, cells, slots⟩ { g with stack := rest } (.invokestatic index) mk As.toArray X₁ hg hsize hdg hW (X₁.named hnamed) ⟨hf.1, hf.2, hp.2 (T.setVm vm₁) hT X₁.warmed⟩
  dsimp only [Pt.U, Pt.locs, Pt.cells, Pt.slots] at X' e1 e2 h1 h2 h3 hsteps
  subst h1; subst h2; subst h3
  exact ⟨v, (T.setVm vm₁).calling g' mk' As.toArray, t, U', L, hT, X', hL, e1, e2, hq, fun target h => hstep₁ _ fun acts => by rw [doInvoke_state]; exact hsteps.trans h⟩
end CallSW
/-! consequences -/
theorem Met.conseq {l : Launch} {y : MethodName} {ws : List Cond} {rm : Room} {Pc Pc' : Array Value → State → Prop} {Qc Qc' : Array Value → State → Outcome → State → Prop} {mc ms : Nat} {free free' : Nat → Prop} (h : Met l y ws rm Pc Qc mc ms free) (hP : ∀ a s, Pc' a s → Pc a s) (hQ : ∀ a s o t, Qc a s o t → Qc' a s o t) (hf : ∀ q, free q → free' q) : Met l y ws rm Pc' Qc' mc ms free' := by
  intro p e h1 h2 h3 s m args below h4 h5 h6 h7
  obtain ⟨n, o, a1, a2, a3, a4, L, a5, a6⟩ := h p e h1 h2 h3 s m args below h4 h5 (hP _ _ h6) h7
  exact ⟨n, o, a1, a2, a3, hQ _ _ _ _ a4, L, a5, fun q hq => hf _ (a6 q hq)⟩
theorem A_perm {w w' : va_W} (hp : w.Perm w') {sz q : Nat} (h : va_A w sz q) : va_A w' sz q := by
  rcases h with ⟨k, e, h⟩ | h
  · obtain ⟨k', h'⟩ := List.mem_iff_getElem?.mp (hp.mem_iff.mp (List.mem_of_getElem? h))
    exact Or.inl ⟨k', e, h'⟩
  · exact Or.inr h
theorem va_F.mono {A A' : Nat → Prop} {st t : State} (h : va_F A st t) (hA : ∀ q, A q → A' q) : va_F A' st t := by
  unfold va_F at h ⊢
  exact ⟨h.1, fun q h1 h2 => h.2 q h1 (fun z => h2 (hA q z))⟩
theorem CHi.conv {S S' : Type} {post : Int32 → S → Prop} {post' : Int32 → S' → Prop} {w1 : S → va_W} {w1' : S' → va_W} {l : Launch} {y : MethodName} {ws : List Cond} {rm : Room} {D : va_G} {cI cL cO : ClassId} {N t0 mi : Nat} {av : List Value} {w0 w0' : va_W} {mc ms : Nat}
    (h : CHi l y ws rm D cI cL cO N t0 mi av w0 post w1 mc ms) (hp : w0'.Perm w0) (hq : ∀ r u, post r u → ∃ u', post' r u' ∧ (w1 u).Perm (w1' u')) : CHi l y ws rm D cI cL cO N t0 mi av w0' post' w1' mc ms := by
  intro sz
  refine Met.conseq (h sz) ?_ ?_ (fun q => A_perm hp.symm)
  · intro a s ⟨h1, ⟨h2, h3, h4, h5, h6⟩, h7⟩
    exact ⟨h1, ⟨h2, P_perm hp h3, h4, D_perm hp h5, h6⟩, h7⟩
  · intro a s o t ⟨⟨r, u, h1, h2, h3, h4⟩, h5⟩
    obtain ⟨u', h6, h7⟩ := hq r u h2
    exact ⟨⟨r, u', h1, h6, P_perm h7 h3, (D_perm h7 h4).weaken (fun _ q _ h => A_perm hp.symm h)⟩, h5.mono (fun q => A_perm hp.symm)⟩
