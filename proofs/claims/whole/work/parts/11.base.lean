/-! worlds by membership; parts that change places -/
theorem P_iff {D : va_G} {cl : List vw_C} {w : va_W} {H : Heap} : va_P D cl w H ↔ ∀ q ∈ w, va_at D cl q H :=
  ⟨fun h q hq => by obtain ⟨k, hk⟩ := List.mem_iff_getElem?.mp hq; exact h k q hk, fun h k q hk => h q (List.mem_of_getElem? hk)⟩
theorem P_perm {D : va_G} {cl : List vw_C} {w w' : va_W} {H : Heap} (hp : w.Perm w') (h : va_P D cl w H) : va_P D cl w' H := P_iff.mpr fun q hq => P_iff.mp h q (hp.mem_iff.mpr hq)
theorem P_app {D : va_G} {cl : List vw_C} {a b : va_W} {H : Heap} : va_P D cl (a ++ b) H ↔ va_P D cl a H ∧ va_P D cl b H := by
  simp only [P_iff, List.mem_append]
  exact ⟨fun h => ⟨fun q hq => h q (Or.inl hq), fun q hq => h q (Or.inr hq)⟩, fun h q hq => hq.elim (h.1 q) (h.2 q)⟩
theorem D_iff {A : Nat → Prop} {w : va_W} : va_D A w ↔ (w.map (fun q => q.1)).Nodup ∧ ∀ q ∈ w, A q.1 := by
  constructor
  · intro h
    refine ⟨?_, fun q hq => by obtain ⟨k, hk⟩ := List.mem_iff_getElem?.mp hq; exact h.2 k q hk⟩
    rw [List.Nodup, List.pairwise_map, List.pairwise_iff_getElem]
    intro i j hi hj hij e
    have := h.1 i j _ _ (List.getElem?_eq_getElem hi) (List.getElem?_eq_getElem hj) e
    omega
  · intro h
    refine ⟨fun i j p q hp hq e => ?_, fun k q hk => h.2 q (List.mem_of_getElem? hk)⟩
    have h1 := h.1
    rw [List.Nodup, List.pairwise_map, List.pairwise_iff_getElem] at h1
    obtain ⟨hi, ep⟩ := List.getElem?_eq_some_iff.mp hp
    obtain ⟨hj, eq⟩ := List.getElem?_eq_some_iff.mp hq
    rcases Nat.lt_trichotomy i j with hh | hh | hh
    · exact absurd (by rw [ep, eq]; exact e) (h1 i j hi hj hh)
    · exact hh
    · exact absurd (by rw [ep, eq]; exact e.symm) (h1 j i hj hi hh)
theorem D_perm {A : Nat → Prop} {w w' : va_W} (hp : w.Perm w') (h : va_D A w) : va_D A w' := by
  obtain ⟨h1, h2⟩ := D_iff.mp h
  exact D_iff.mpr ⟨(hp.map _).nodup_iff.mp h1, fun q hq => h2 q (hp.mem_iff.mpr hq)⟩
theorem P_sw {D : va_G} {cl : List vw_C} {a b c : va_W} {H : Heap} (h : va_P D cl (a ++ (b ++ c)) H) : va_P D cl (b ++ (a ++ c)) H := P_perm (List.perm_append_comm_assoc a b c) h
theorem P_sw1 {D : va_G} {cl : List vw_C} {x a b c : va_W} {H : Heap} (h : va_P D cl (x ++ (a ++ (b ++ c))) H) : va_P D cl (x ++ (b ++ (a ++ c))) H := P_perm ((List.perm_append_comm_assoc a b c).append_left x) h
theorem D_sw1 {A : Nat → Prop} {x a b c : va_W} (h : va_D A (x ++ (a ++ (b ++ c)))) : va_D A (x ++ (b ++ (a ++ c))) := D_perm ((List.perm_append_comm_assoc a b c).append_left x) h
theorem D_sw {A : Nat → Prop} {a b c : va_W} (h : va_D A (a ++ (b ++ c))) : va_D A (b ++ (a ++ c)) := D_perm (List.perm_append_comm_assoc a b c) h
/-! an index looked at before it is used -/
theorem P_nil {D : va_G} {cl : List vw_C} {H : Heap} : va_P D cl [] H := fun k q h => by simp at h
theorem in_of {x N : Int32} {n : Nat} (hN : N.toInt = n) (h0 : ¬ x < 0) (h1 : ¬ N ≤ x) : vp_in x n := by
  rw [Int32.lt_iff_toInt_lt, Int32.toInt_zero] at h0
  rw [Int32.le_iff_toInt_le, hN] at h1
  exact vp_in_iff.mpr ⟨by omega, by omega⟩
/-! what all contracts rest on: the classes, the rows' classes, the nest's words -/
theorem nw_warm {s U : State} (hW : s.WarmedH U.vm) {w : Cond} (h : nw_ok w = true) (hz : va_Nw w s) : va_Nw w U := by
  cases w <;> first | exact va_Nw.warmF hW hz | exact va_Nw.warmM hW hz | exact va_Nw.warmC hW hz | exact va_Nw.warmD hW hz | (simp [nw_ok] at h; done)
theorem nw_same {s U : State} (hv : s.vm = U.vm) {w : Cond} (h : nw_ok w = true) (hz : va_Nw w s) : va_Nw w U := by
  cases w <;> first | (simp [nw_ok] at h; done) | exact va_Nw.same rfl hv hz
def NW (U : State) : Prop := ∀ w ∈ nw_l, va_Nw w U
theorem nw_all : ∀ w ∈ nw_l, nw_ok w = true := fun w h => (List.mem_filter.mp h).2
abbrev TYS (cI cL cO : ClassId) : List (ClassId × FieldType) := [(cI, .int), (cL, .long), (cO, .object "java/lang/Object")]
def KW (D : va_G) (cI cL cO : ClassId) (U : State) : Prop := va_K D vwCl (TYS cI cL cO) U ∧ NW U
theorem KW.warm {D : va_G} {cI cL cO : ClassId} {s U : State} (h : KW D cI cL cO s) (hW : s.WarmedH U.vm) : KW D cI cL cO U := ⟨va_K.moved hW.alike h.1, fun w hw => nw_warm hW (nw_all w hw) (h.2 w hw)⟩
theorem KW.calling {D : va_G} {cI cL cO : ClassId} {U : State} (h : KW D cI cL cO U) (g : JFrame) (mk : MethodId) (a : Array Value) : KW D cI cL cO (U.calling g mk a) := ⟨va_K.moved (u := U) (U := U.calling g mk a) (Vm.Alike.refl U.vm) h.1, fun w hw => nw_same (s := U) (U := U.calling g mk a) rfl (nw_all w hw) (h.2 w hw)⟩
/-! contracts that only read: R; that change their world: M -/
def PR (D : va_G) (cI cL cO : ClassId) (av : List Value) (w0 : va_W) : Array Value → State → Prop := va_Pc av (fun U => va_P D vwCl w0 U.heap ∧ KW D cI cL cO U)
theorem PR.bl {D : va_G} {cI cL cO : ClassId} {av : List Value} {w0 : va_W} : FrameBlind (PR D cI cL cO av w0) := fun a U g mk q => ⟨q.1, q.2.1, q.2.2.calling g mk a⟩
theorem PR.pre {D : va_G} {cI cL cO : ClassId} {av : List Value} {w0 : va_W} {s : State} {H : Heap} (hP : va_P D vwCl w0 H) (hK : KW D cI cL cO s) (U : State) (hU : U.heap = H) (hW : s.WarmedH U.vm) : PR D cI cL cO av w0 av.toArray U := ⟨rfl, by rw [hU]; exact hP, hK.warm hW⟩
abbrev NoF : Addr → Prop := fun _ => False
abbrev CRi (l : Launch) (y : MethodName) (ws : List Cond) (rm : Room) (D : va_G) (cI cL cO : ClassId) (av : List Value) (w0 : va_W) (v : Int32) : Prop := Met l y ws rm (PR D cI cL cO av w0) (vp_Si (fun r => r = v)) 0 0 NoF
abbrev CRl (l : Launch) (y : MethodName) (ws : List Cond) (rm : Room) (D : va_G) (cI cL cO : ClassId) (av : List Value) (w0 : va_W) (v : Int64) : Prop := Met l y ws rm (PR D cI cL cO av w0) (vp_Sl (fun r => r = v)) 0 0 NoF
theorem ofR {l : Launch} {y : MethodName} {ws ws' : List Cond} {rm : Room} {D : va_G} {cI cL cO : ClassId} {av : List Value} {w0 : va_W} {Qc : Array Value → State → Outcome → State → Prop} {cc : ByteArray} {maxL : Nat} {ret : Option FieldType}
    (hy : plainName y.cls = true) (hw : ws = Cond.code y cc maxL ret :: ws') (hn : (lg_sl av).length ≤ maxL)
    (body : ∀ (p : Program) (e : Env) (s : State) (m : MethodId) (below : List Frame) (meth : Method) (c : Code) (ls : Array Slot) (Q : State → Prop), Q = MQ below Qc av.toArray s 0 0 NoF → p.tables.exec = Jvm.exec → c.code = cc → meth.sig.returnType = ret → meth.locks = false → (∀ w ∈ ws, w.before av.toArray s = true) → s.vm.findClass y.cls = some m.cls → c.maxLocals = maxL → va_P D vwCl w0 s.heap → KW D cI cL cO s → lv_has ls maxL (lv_args 0 av) →
      W p l e rm s m av.toArray below meth c s.heap [] 0 0 Q (F0 m 0 ls [])) : Met l y ws rm (PR D cI cL cO av w0) Qc 0 0 NoF := by
  refine Met.ofW (cc := cc) (maxL := maxL) (ret := ret) hy hw ?_
  intro p e s m args below meth c s₁ B hml hv
  obtain ⟨rfl, hP, hK⟩ := hv
  have hl := lv_entry av (n := maxL) hn
  rw [lg_entry_eq]
  generalize (lg_sl av ++ List.replicate (maxL - (lg_sl av).length) Slot.unset).toArray = ls at hl ⊢
  exact body p e s m below meth c ls _ rfl B.exec B.bytes B.returns B.notSynchronized (atoms_spec (ws := ws) B.pre) (findClass_of_methodNamed B.named) hml hP hK hl
section Ends
variable {p : Program} {l : Launch} {e : Env} {R : Room} {s : State} {m : MethodId} {args : Array Value} {below : List Frame} {meth : Method} {c : Code} {H : Heap} {locs : List Loc} {cells slots : Nat} {Q : State → Prop}
variable {cc : ByteArray} {pc : Nat} {ls : Array Slot} {D : va_G} {cI cL cO : ClassId} {A : Nat → Prop} {st0 rest : List Value} {mc ms : Nat} {a : Array Value} {w0 : va_W}
theorem retRi {v v0 : Int32} (hx : p.tables.exec = Jvm.exec) (hb : c.code = cc) (hr : meth.sig.returnType = some .int) (hlocks : meth.locks = false) (ev : v = v0) (hd : decode cc pc = .ok (.ireturn, 1)) : W p l e R s m args below meth c s.heap [] 0 0 (MQ below (vp_Si (fun r => r = v0)) args s 0 0 NoF) (F0 m pc ls [.int v]) :=
  W.iret hx hb hr (fun t ht _ => ⟨v, rfl, ev, ht⟩) (fun q h => by cases h) hd hlocks
theorem retRz {v v0 : Int32} (hx : p.tables.exec = Jvm.exec) (hb : c.code = cc) (hr : meth.sig.returnType = some .boolean) (hlocks : meth.locks = false) (hn : narrow .boolean (.int v) = .int v) (ev : v = v0) (hd : decode cc pc = .ok (.ireturn, 1)) : W p l e R s m args below meth c s.heap [] 0 0 (MQ below (vp_Si (fun r => r = v0)) args s 0 0 NoF) (F0 m pc ls [.int v]) :=
  W.zret hx hb hr hn (fun t ht _ => ⟨v, rfl, ev, ht⟩) (fun q h => by cases h) hd hlocks
theorem retRl {v v0 : Int64} (hx : p.tables.exec = Jvm.exec) (hb : c.code = cc) (hr : meth.sig.returnType = some .long) (hlocks : meth.locks = false) (ev : v = v0) (hd : decode cc pc = .ok (.lreturn, 1)) : W p l e R s m args below meth c s.heap [] 0 0 (MQ below (vp_Sl (fun r => r = v0)) args s 0 0 NoF) (F0 m pc ls [.long v]) :=
  W.lret hx hb hr (fun t ht _ => ⟨v, rfl, ev, ht⟩) (fun q h => by cases h) hd hlocks
theorem goRi {v : Int32} (hr : va_Run p l e R s m args below meth c H locs cells slots 0 0 (F0 m pc ls st0) rest (vp_Si (fun r => r = v) a) NoF)
    (kk : W p l e R s m args below meth c H locs cells slots Q (F0 m (pc + 3) ls (.int v :: rest))) : W p l e R s m args below meth c H locs cells slots Q (F0 m pc ls st0) :=
  vp_callSi hr.run (fun r er => by rw [er]; exact kk)
theorem goRl {v : Int64} (hr : va_Run p l e R s m args below meth c H locs cells slots 0 0 (F0 m pc ls st0) rest (vp_Sl (fun r => r = v) a) NoF)
    (kk : W p l e R s m args below meth c H locs cells slots Q (F0 m (pc + 3) ls (.long v :: rest))) : W p l e R s m args below meth c H locs cells slots Q (F0 m pc ls st0) :=
  vp_callSl hr.run (fun r er => by rw [er]; exact kk)
end Ends
def PM (D : va_G) (cI cL cO : ClassId) (av : List Value) (sz : Nat) (w0 : va_W) : Array Value → State → Prop := va_Pc av (fun U => U.heap.size = sz ∧ va_P D vwCl w0 U.heap ∧ KW D cI cL cO U ∧ va_D (fun _ => True) w0)
theorem PM.bl {D : va_G} {cI cL cO : ClassId} {av : List Value} {sz : Nat} {w0 : va_W} : FrameBlind (PM D cI cL cO av sz w0) := fun a U g mk q => ⟨q.1, q.2.1, q.2.2.1, q.2.2.2.1.calling g mk a, q.2.2.2.2⟩
theorem PM.pre {D : va_G} {cI cL cO : ClassId} {av : List Value} {w0 : va_W} {s : State} {H : Heap} {A : Nat → Prop} (hP : va_P D vwCl w0 H) (hD : va_D A w0) (hK : KW D cI cL cO s) (U : State) (hU : U.heap = H) (hW : s.WarmedH U.vm) : PM D cI cL cO av H.size w0 av.toArray U := ⟨rfl, by rw [hU], by rw [hU]; exact hP, hK.warm hW, hD.weaken (fun _ _ _ _ => trivial)⟩
def QB (D : va_G) {S : Type} (w1 : S → va_W) (A : Nat → Prop) (u : S) (t : State) : Prop := va_P D vwCl (w1 u) t.heap ∧ va_D A (w1 u)
abbrev CMv (l : Launch) (y : MethodName) (ws : List Cond) (rm : Room) (D : va_G) (cI cL cO : ClassId) (av : List Value) (w0 : va_W) {S : Type} (post : S → Prop) (w1 : S → va_W) (mc ms : Nat) : Prop := ∀ sz : Nat, Met l y ws rm (PM D cI cL cO av sz w0) (va_Qv post (QB D w1 (va_A w0 sz)) (va_A w0 sz)) mc ms (va_A w0 sz)
abbrev CMi (l : Launch) (y : MethodName) (ws : List Cond) (rm : Room) (D : va_G) (cI cL cO : ClassId) (av : List Value) (w0 : va_W) {S : Type} (post : Int32 → S → Prop) (w1 : S → va_W) (mc ms : Nat) : Prop := ∀ sz : Nat, Met l y ws rm (PM D cI cL cO av sz w0) (va_Qi post (QB D w1 (va_A w0 sz)) (va_A w0 sz)) mc ms (va_A w0 sz)
abbrev CMl (l : Launch) (y : MethodName) (ws : List Cond) (rm : Room) (D : va_G) (cI cL cO : ClassId) (av : List Value) (w0 : va_W) {S : Type} (post : Int64 → S → Prop) (w1 : S → va_W) (mc ms : Nat) : Prop := ∀ sz : Nat, Met l y ws rm (PM D cI cL cO av sz w0) (va_Ql post (QB D w1 (va_A w0 sz)) (va_A w0 sz)) mc ms (va_A w0 sz)
theorem ofM {l : Launch} {y : MethodName} {ws ws' : List Cond} {rm : Room} {D : va_G} {cI cL cO : ClassId} {av : List Value} {w0 : va_W} {Qc : (Nat → Prop) → Array Value → State → Outcome → State → Prop} {cc : ByteArray} {maxL : Nat} {ret : Option FieldType} {mc ms : Nat}
    (hy : plainName y.cls = true) (hw : ws = Cond.code y cc maxL ret :: ws') (hn : (lg_sl av).length ≤ maxL)
    (body : ∀ (p : Program) (e : Env) (s : State) (m : MethodId) (below : List Frame) (meth : Method) (c : Code) (A : Nat → Prop) (ls : Array Slot) (H : Heap) (Q : State → Prop), Q = MQ below (Qc A) av.toArray s mc ms A → p.tables.exec = Jvm.exec → c.code = cc → meth.sig.returnType = ret → meth.locks = false → (meth.name = y.name) → (∀ w ∈ ws, w.before av.toArray s = true) → s.vm.findClass y.cls = some m.cls → c.maxLocals = maxL → va_P D vwCl w0 H → KW D cI cL cO s → va_D A w0 → va_S A s.heap H [] → (∀ q : Nat, s.heap.size ≤ q → A q) → lv_has ls maxL (lv_args 0 av) →
      W p l e rm s m av.toArray below meth c H [] 0 0 Q (F0 m 0 ls [])) (sz : Nat) : Met l y ws rm (PM D cI cL cO av sz w0) (Qc (va_A w0 sz)) mc ms (va_A w0 sz) := by
  refine Met.ofW (cc := cc) (maxL := maxL) (ret := ret) hy hw ?_
  intro p e s m args below meth c s₁ B hml hv
  obtain ⟨rfl, hsz, hP, hK, hD0⟩ := hv
  subst hsz
  have hl := lv_entry av (n := maxL) hn
  rw [lg_entry_eq]
  generalize (lg_sl av ++ List.replicate (maxL - (lg_sl av).length) Slot.unset).toArray = ls at hl ⊢
  exact body p e s m below meth c _ ls s.heap _ rfl B.exec B.bytes B.returns B.notSynchronized (name_of_methodNamed B.named B.method).1 (atoms_spec (ws := ws) B.pre) (findClass_of_methodNamed B.named) hml hP hK (hD0.self (sz := s.heap.size)) va_S.rf (fun q h => Or.inr h) hl
theorem ofMv {S : Type} {post : S → Prop} {w1 : S → va_W} {l : Launch} {y : MethodName} {ws ws' : List Cond} {rm : Room} {D : va_G} {cI cL cO : ClassId} {av : List Value} {w0 : va_W} {cc : ByteArray} {maxL : Nat} {ret : Option FieldType} {mc ms : Nat}
    (hy : plainName y.cls = true) (hw : ws = Cond.code y cc maxL ret :: ws') (hn : (lg_sl av).length ≤ maxL)
    (body : ∀ (p : Program) (e : Env) (s : State) (m : MethodId) (below : List Frame) (meth : Method) (c : Code) (A : Nat → Prop) (ls : Array Slot) (H : Heap) (Q : State → Prop), Q = MQ below (va_Qv post (QB D w1 A) A) av.toArray s mc ms A → p.tables.exec = Jvm.exec → c.code = cc → meth.sig.returnType = ret → meth.locks = false → (meth.name = y.name) → (∀ w ∈ ws, w.before av.toArray s = true) → s.vm.findClass y.cls = some m.cls → c.maxLocals = maxL → va_P D vwCl w0 H → KW D cI cL cO s → va_D A w0 → va_S A s.heap H [] → (∀ q : Nat, s.heap.size ≤ q → A q) → lv_has ls maxL (lv_args 0 av) →
      W p l e rm s m av.toArray below meth c H [] 0 0 Q (F0 m 0 ls [])) : CMv l y ws rm D cI cL cO av w0 post w1 mc ms := fun sz => ofM (Qc := fun A => va_Qv post (QB D w1 A) A) hy hw hn body sz
theorem ofMi {S : Type} {post : Int32 → S → Prop} {w1 : S → va_W} {l : Launch} {y : MethodName} {ws ws' : List Cond} {rm : Room} {D : va_G} {cI cL cO : ClassId} {av : List Value} {w0 : va_W} {cc : ByteArray} {maxL : Nat} {ret : Option FieldType} {mc ms : Nat}
    (hy : plainName y.cls = true) (hw : ws = Cond.code y cc maxL ret :: ws') (hn : (lg_sl av).length ≤ maxL)
    (body : ∀ (p : Program) (e : Env) (s : State) (m : MethodId) (below : List Frame) (meth : Method) (c : Code) (A : Nat → Prop) (ls : Array Slot) (H : Heap) (Q : State → Prop), Q = MQ below (va_Qi post (QB D w1 A) A) av.toArray s mc ms A → p.tables.exec = Jvm.exec → c.code = cc → meth.sig.returnType = ret → meth.locks = false → (meth.name = y.name) → (∀ w ∈ ws, w.before av.toArray s = true) → s.vm.findClass y.cls = some m.cls → c.maxLocals = maxL → va_P D vwCl w0 H → KW D cI cL cO s → va_D A w0 → va_S A s.heap H [] → (∀ q : Nat, s.heap.size ≤ q → A q) → lv_has ls maxL (lv_args 0 av) →
      W p l e rm s m av.toArray below meth c H [] 0 0 Q (F0 m 0 ls [])) : CMi l y ws rm D cI cL cO av w0 post w1 mc ms := fun sz => ofM (Qc := fun A => va_Qi post (QB D w1 A) A) hy hw hn body sz
theorem ofMl {S : Type} {post : Int64 → S → Prop} {w1 : S → va_W} {l : Launch} {y : MethodName} {ws ws' : List Cond} {rm : Room} {D : va_G} {cI cL cO : ClassId} {av : List Value} {w0 : va_W} {cc : ByteArray} {maxL : Nat} {ret : Option FieldType} {mc ms : Nat}
    (hy : plainName y.cls = true) (hw : ws = Cond.code y cc maxL ret :: ws') (hn : (lg_sl av).length ≤ maxL)
    (body : ∀ (p : Program) (e : Env) (s : State) (m : MethodId) (below : List Frame) (meth : Method) (c : Code) (A : Nat → Prop) (ls : Array Slot) (H : Heap) (Q : State → Prop), Q = MQ below (va_Ql post (QB D w1 A) A) av.toArray s mc ms A → p.tables.exec = Jvm.exec → c.code = cc → meth.sig.returnType = ret → meth.locks = false → (meth.name = y.name) → (∀ w ∈ ws, w.before av.toArray s = true) → s.vm.findClass y.cls = some m.cls → c.maxLocals = maxL → va_P D vwCl w0 H → KW D cI cL cO s → va_D A w0 → va_S A s.heap H [] → (∀ q : Nat, s.heap.size ≤ q → A q) → lv_has ls maxL (lv_args 0 av) →
      W p l e rm s m av.toArray below meth c H [] 0 0 Q (F0 m 0 ls [])) : CMl l y ws rm D cI cL cO av w0 post w1 mc ms := fun sz => ofM (Qc := fun A => va_Ql post (QB D w1 A) A) hy hw hn body sz
section EndsM
variable {p : Program} {l : Launch} {e : Env} {R : Room} {s : State} {m : MethodId} {args : Array Value} {below : List Frame} {meth : Method} {c : Code} {H : Heap} {locs : List Loc} {cells slots : Nat} {Q : State → Prop}
variable {cc : ByteArray} {pc : Nat} {ls : Array Slot} {D : va_G} {A : Nat → Prop} {st0 rest : List Value} {mc ms : Nat} {a : Array Value} {w0 : va_W} {S : Type} {w1 : S → va_W}
theorem retMv {post : S → Prop} (u : S) (hx : p.tables.exec = Jvm.exec) (hb : c.code = cc) (hr : meth.sig.returnType = none) (hlocks : meth.locks = false) (hP : va_P D vwCl (w1 u) H) (hD : va_D A (w1 u)) (hS : va_S A s.heap H locs) (hu : post u) (hd : decode cc pc = .ok (.return_, 1)) : W p l e R s m args below meth c H locs cells slots (MQ below (va_Qv post (QB D w1 A) A) args s cells slots A) (F0 m pc ls []) :=
  W.vret hx hb hr (fun t ht _ => ⟨⟨u, rfl, hu, by rw [ht]; exact hP, hD⟩, hS.F ht⟩) hS.2.2 hd hlocks
theorem retMi {post : Int32 → S → Prop} {v : Int32} (u : S) (hx : p.tables.exec = Jvm.exec) (hb : c.code = cc) (hr : meth.sig.returnType = some .int) (hlocks : meth.locks = false) (hP : va_P D vwCl (w1 u) H) (hD : va_D A (w1 u)) (hS : va_S A s.heap H locs) (hu : post v u) (hd : decode cc pc = .ok (.ireturn, 1)) : W p l e R s m args below meth c H locs cells slots (MQ below (va_Qi post (QB D w1 A) A) args s cells slots A) (F0 m pc ls [.int v]) :=
  W.iret hx hb hr (fun t ht _ => ⟨⟨v, u, rfl, hu, by rw [ht]; exact hP, hD⟩, hS.F ht⟩) hS.2.2 hd hlocks
theorem retMl {post : Int64 → S → Prop} {v : Int64} (u : S) (hx : p.tables.exec = Jvm.exec) (hb : c.code = cc) (hr : meth.sig.returnType = some .long) (hlocks : meth.locks = false) (hP : va_P D vwCl (w1 u) H) (hD : va_D A (w1 u)) (hS : va_S A s.heap H locs) (hu : post v u) (hd : decode cc pc = .ok (.lreturn, 1)) : W p l e R s m args below meth c H locs cells slots (MQ below (va_Ql post (QB D w1 A) A) args s cells slots A) (F0 m pc ls [.long v]) :=
  W.lret hx hb hr (fun t ht _ => ⟨⟨v, u, rfl, hu, by rw [ht]; exact hP, hD⟩, hS.F ht⟩) hS.2.2 hd hlocks
theorem A_in {H0 : Heap} (hD : va_D A w0) (hS : va_S A H0 H locs) (hA : ∀ q : Nat, H0.size ≤ q → A q) (q : Nat) (h : va_A w0 H.size q) : A q := by
  rcases h with ⟨k, e, h⟩ | h
  · exact hD.2 k _ h
  · exact hA q (Nat.le_trans hS.1 h)
theorem goMv {post : S → Prop} (hr : va_Run p l e R s m args below meth c H locs cells slots mc ms (F0 m pc ls st0) rest (va_Qv post (QB D w1 (va_A w0 H.size)) (va_A w0 H.size) a) (va_A w0 H.size)) (hD : va_D A w0) (hS : va_S A s.heap H locs) (hA : ∀ q : Nat, s.heap.size ≤ q → A q)
    (kk : ∀ (u : S) (H1 : Heap) (locs1 : List Loc), post u → va_P D vwCl (w1 u) H1 → va_D A (w1 u) → va_S A s.heap H1 locs1 → W p l e R s m args below meth c H1 locs1 (cells + mc) (slots + ms) Q (F0 m (pc + 3) ls rest)) : W p l e R s m args below meth c H locs cells slots Q (F0 m pc ls st0) :=
  va_callv hr hS (fun q _ h => A_in hD hS hA q h) (A_in hD hS hA) (fun u t H1 locs1 ht _ hw hB _ _ hS1 => kk u H1 locs1 hw (by rw [← ht]; exact hB.1) (hB.2.weaken (fun _ q _ h => A_in hD hS hA q.1 h)) hS1)
theorem goMi {post : Int32 → S → Prop} (hr : va_Run p l e R s m args below meth c H locs cells slots mc ms (F0 m pc ls st0) rest (va_Qi post (QB D w1 (va_A w0 H.size)) (va_A w0 H.size) a) (va_A w0 H.size)) (hD : va_D A w0) (hS : va_S A s.heap H locs) (hA : ∀ q : Nat, s.heap.size ≤ q → A q)
    (kk : ∀ (r : Int32) (u : S) (H1 : Heap) (locs1 : List Loc), post r u → va_P D vwCl (w1 u) H1 → va_D A (w1 u) → va_S A s.heap H1 locs1 → W p l e R s m args below meth c H1 locs1 (cells + mc) (slots + ms) Q (F0 m (pc + 3) ls (.int r :: rest))) : W p l e R s m args below meth c H locs cells slots Q (F0 m pc ls st0) :=
  va_calli hr hS (fun q _ h => A_in hD hS hA q h) (A_in hD hS hA) (fun r u t H1 locs1 ht _ hw hB _ _ hS1 => kk r u H1 locs1 hw (by rw [← ht]; exact hB.1) (hB.2.weaken (fun _ q _ h => A_in hD hS hA q.1 h)) hS1)
theorem goMl {post : Int64 → S → Prop} (hr : va_Run p l e R s m args below meth c H locs cells slots mc ms (F0 m pc ls st0) rest (va_Ql post (QB D w1 (va_A w0 H.size)) (va_A w0 H.size) a) (va_A w0 H.size)) (hD : va_D A w0) (hS : va_S A s.heap H locs) (hA : ∀ q : Nat, s.heap.size ≤ q → A q)
    (kk : ∀ (r : Int64) (u : S) (H1 : Heap) (locs1 : List Loc), post r u → va_P D vwCl (w1 u) H1 → va_D A (w1 u) → va_S A s.heap H1 locs1 → W p l e R s m args below meth c H1 locs1 (cells + mc) (slots + ms) Q (F0 m (pc + 3) ls (.long r :: rest))) : W p l e R s m args below meth c H locs cells slots Q (F0 m pc ls st0) :=
  va_calll hr hS (fun q _ h => A_in hD hS hA q h) (A_in hD hS hA) (fun r u t H1 locs1 ht _ hw hB _ _ hS1 => kk r u H1 locs1 hw (by rw [← ht]; exact hB.1) (hB.2.weaken (fun _ q _ h => A_in hD hS hA q.1 h)) hS1)
end EndsM
