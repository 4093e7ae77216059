theorem gB0 {c c2 : Cond} (h2 : c2 ∈ BIG) : GoodIn (c :: BIG) (c2 :: BIG) := gBIG (X := []) (fun _ h => absurd h List.not_mem_nil) h2
theorem nz01 {x : Int32} (h : x = 0 ∨ x = 1) : narrow .boolean (.int x) = .int x := by rcases h with rfl | rfl <;> rfl
theorem isReg_01 (r : Int32) : isReg r = 0 ∨ isReg r = 1 := by unfold isReg; split <;> first | exact Or.inl rfl | (split <;> first | exact Or.inl rfl | exact Or.inr rfl)
theorem isReg_nz (r : Int32) : narrow .boolean (.int (isReg r)) = .int (isReg r) := nz01 (isReg_01 r)
section MM
variable {p : Program} {l : Launch} {e : Env} {R : Room} {s : State} {m : MethodId} {args : Array Value} {below : List Frame} {meth : Method} {c : Code} {H : Heap} {locs : List Loc} {cells slots : Nat} {Q : State → Prop} {cc : ByteArray} {pc : Nat} {ls : Array Slot} {rest : List Value}
theorem w_max (hx : p.tables.exec = Jvm.exec) (hb : c.code = cc) (hml : c.maxLocals = ls.size) {own : String} {index : Nat} (hown : s.vm.findClass own = some m.cls) (hlink : (Cond.methodLink own index y_Ma_max).before args s = true) (hstat : (Cond.static y_Ma_max).before args s = true) (hini : (Cond.initialized R_Ma).before args s = true) (hcode : (Cond.code y_Ma_max b_Ma_max 2 (some .int)).before args s = true)
    (hf : 1 ≤ R.frames) (hlo : (rest.map fun v => v.category).sum + 13 ≤ R.locals) (hc : cells ≤ R.cells) (hs : slots ≤ R.slots) {x y : Int32} (hd : decode cc pc = .ok (.invokestatic index, 3)) (kk : W p l e R s m args below meth c H locs cells slots Q (F0 m (pc + 3) ls (.int (maxF x y) :: rest))) : W p l e R s m args below meth c H locs cells slots Q (F0 m pc ls (.int y :: .int x :: rest)) :=
  va_mmax hx hb hml hown hlink hstat hini hcode hf hlo hc hs hd kk
theorem w_min (hx : p.tables.exec = Jvm.exec) (hb : c.code = cc) (hml : c.maxLocals = ls.size) {own : String} {index : Nat} (hown : s.vm.findClass own = some m.cls) (hlink : (Cond.methodLink own index y_Ma_min).before args s = true) (hstat : (Cond.static y_Ma_min).before args s = true) (hini : (Cond.initialized R_Ma).before args s = true) (hcode : (Cond.code y_Ma_min b_Ma_min 2 (some .int)).before args s = true)
    (hf : 1 ≤ R.frames) (hlo : (rest.map fun v => v.category).sum + 13 ≤ R.locals) (hc : cells ≤ R.cells) (hs : slots ≤ R.slots) {x y : Int32} (hd : decode cc pc = .ok (.invokestatic index, 3)) (kk : W p l e R s m args below meth c H locs cells slots Q (F0 m (pc + 3) ls (.int (minF x y) :: rest))) : W p l e R s m args below meth c H locs cells slots Q (F0 m pc ls (.int y :: .int x :: rest)) :=
  va_mmin hx hb hml hown hlink hstat hini hcode hf hlo hc hs hd kk
end MM
theorem i32_1 {x : Int32} (h : x.toInt < 2147483647) : (x + 1).toInt = x.toInt + 1 := by
  have h1 := x.minValue_le_toInt
  rw [Int32.toInt_add, show (1 : Int32).toInt = 1 by decide]
  exact Int.bmod_eq_of_le (by simp [Int32.minValue] at h1; omega) (by omega)
theorem nn1 {x N : Int32} (h0 : ¬ x < 0) (h : ¬ N ≤ x) : ¬ x + 1 < 0 := by
  rw [Int32.lt_iff_toInt_lt, Int32.toInt_zero] at h0 ⊢
  rw [Int32.le_iff_toInt_le] at h
  have h2 := Int32.toInt_lt N
  rw [i32_1 (by omega)]
  omega
theorem maxF0 (x : Int32) : ¬ maxF 0 x < 0 := by
  unfold maxF
  split
  · rename_i h; rw [Int32.lt_iff_toInt_lt] at h ⊢; simp at h ⊢; omega
  · decide
theorem hasF_01 (bc i : Int32) : hasF bc i = 0 ∨ hasF bc i = 1 := by unfold hasF; repeat' split
                                                                     all_goals first | exact Or.inl rfl | exact Or.inr rfl
theorem hasF_in {bc i : Int32} (h : ¬ hasF bc i = 0) : vp_in i 300 := by
  unfold hasF at h
  split at h
  · exact absurd rfl h
  · split at h
    · exact absurd rfl h
    · split at h
      · exact absurd rfl h
      · exact in_of (N := 300) (by decide) (by assumption) (by assumption)
theorem i_lt {x N : Int32} (h : ¬ N ≤ x) : x.toInt < N.toInt := by rw [Int32.le_iff_toInt_le] at h; omega
theorem nn_of {x : Int32} (h : 0 ≤ x.toInt) : ¬ x < 0 := by rw [Int32.lt_iff_toInt_lt, Int32.toInt_zero]; omega
theorem of_nn {x : Int32} (h : ¬ x < 0) : 0 ≤ x.toInt := by rw [Int32.lt_iff_toInt_lt, Int32.toInt_zero] at h; omega
theorem in_lt {x N : Int32} {n : Nat} (hN : N.toInt = n) (h0 : ¬ x < 0) (h1 : x < N) : vp_in x n := by
  rw [Int32.lt_iff_toInt_lt, hN] at h1
  exact vp_in_iff.mpr ⟨of_nn h0, h1⟩
theorem in_lt61 {x : Int32} (h0 : ¬ x < 0) (h1 : x < 60) : vp_in x 61 := by
  rw [Int32.lt_iff_toInt_lt, show (60 : Int32).toInt = 60 by decide] at h1
  exact vp_in_iff.mpr ⟨of_nn h0, by omega⟩
theorem in_lt1 {x : Int32} (h0 : ¬ x < 0) (h1 : x < 60) : vp_in (x + 1) 61 := by
  rw [Int32.lt_iff_toInt_lt, show (60 : Int32).toInt = 60 by decide] at h1
  have := of_nn h0
  exact vp_in_iff.mpr ⟨by rw [i32_1 (by omega)]; omega, by rw [i32_1 (by omega)]; omega⟩
