theorem gB0 {c c2 : Cond} (h2 : c2 ∈ BIG) : GoodIn (c :: BIG) (c2 :: BIG) := gBIG (X := []) (fun _ h => absurd h List.not_mem_nil) h2
theorem nz01 {x : Int32} (h : x = 0 ∨ x = 1) : narrow .boolean (.int x) = .int x := by rcases h with rfl | rfl <;> rfl
theorem isReg_01 (r : Int32) : isReg r = 0 ∨ isReg r = 1 := by unfold isReg; split <;> first | exact Or.inl rfl | (split <;> first | exact Or.inl rfl | exact Or.inr rfl)
theorem isReg_nz (r : Int32) : narrow .boolean (.int (isReg r)) = .int (isReg r) := nz01 (isReg_01 r)
section MM
variable {p : Program} {l : Launch} {e : Env} {R : Room} {s : State} {m : MethodId} {args : Array Value} {below : List Frame} {meth : Method} {c : Code} {H : Heap} {locs : List Loc} {cells slots : Nat} {Q : State → Prop} {cc : ByteArray} {pc : Nat} {ls : Array Slot} {rest : List Value}
theorem w_max (hx : p.tables.exec = Jvm.exec) (hb : c.code = cc) (hml : c.maxLocals = ls.size) {own : String} {index : Nat} (hown : s.vm.findClass own = some m.cls) (hlink : (Cond.methodLink own index y_Ma_max).before args s = true) (hstat : (Cond.static y_Ma_max).before args s = true) (hini : (Cond.initialized R_Ma).before args s = true) (hcode : (Cond.code y_Ma_max b_Ma_max 2 (some .int)).before args s = true)
    (hf : 1 ≤ R.frames) (hlo : (rest.map fun v => v.category).sum + 13 ≤ R.locals) (hc : cells ≤ R.cells) (hs : slots ≤ R.slots) {x y : Int32} (hd : decode cc pc = .ok (.invokestatic index, 3)) (kk : W p l e R s m args below meth c H locs cells slots Q (F0 m (pc + 3) ls (.int (maxF x y) :: rest))) : W p l e R s m args below meth c H locs cells slots Q (F0 m pc ls (.int y :: .int x :: rest)) :=
  va_mmax hx hb hml hown hlink hstat hini hcode hf hlo hc hs hd kk
theorem w_min (hx : p.tables.exec = Jvm.exec) (hb : c.code = cc) (hml : c.maxLocals = ls.size) {own : String} {index : Nat} (hown : s.vm.findClass own = some m.cls) (hlink : (Cond.methodLink own index y_Ma_min).before args s = true) (hstat : (Cond.static y_Ma_min).before args s = true) (hini : (Cond.initialized R_Ma).before args s = true) (hcode : (Cond.code y_Ma_min b_Ma_min 2 (some .int)).before args s = true)
    (hf : 1 ≤ R.frames) (hlo : (rest.map fun v => v.category).sum + 13 ≤ R.locals) (hc : cells ≤ R.cells) (hs : slots ≤ R.slots) {x y : Int32} (hd : decode cc pc = .ok (.invokestatic index, 3)) (kk : W p l e R s m args below meth c H locs cells slots Q (F0 m (pc + 3) ls (.int (minF x y) :: rest))) : W p l e R s m args below meth c H locs cells slots Q (F0 m pc ls (.int y :: .int x :: rest)) :=
  va_mmin hx hb hml hown hlink hstat hini hcode hf hlo hc hs hd kk
end MM
theorem i32_1 {x : Int32} (h : x.toInt < 2147483647) : (x + 1).toInt = x.toInt + 1 := by
  have h1 := x.minValue_le_toInt
  rw [Int32.toInt_add, show (1 : Int32).toInt = 1 by decide]
  exact Int.bmod_eq_of_le (by simp [Int32.minValue] at h1; omega) (by omega)
theorem nn1 {x N : Int32} (h0 : ¬ x < 0) (h : ¬ N ≤ x) : ¬ x + 1 < 0 := by
  rw [Int32.lt_iff_toInt_lt, Int32.toInt_zero] at h0 ⊢
  rw [Int32.le_iff_toInt_le] at h
  have h2 := Int32.toInt_lt N
  rw [i32_1 (by omega)]
  omega
theorem maxF0 (x : Int32) : ¬ maxF 0 x < 0 := by
  unfold maxF
  split
  · rename_i h; rw [Int32.lt_iff_toInt_lt] at h ⊢; simp at h ⊢; omega
  · decide
theorem hasF_01 (bc i : Int32) : hasF bc i = 0 ∨ hasF bc i = 1 := by unfold hasF; repeat' split
                                                                     all_goals first | exact Or.inl rfl | exact Or.inr rfl
theorem hasF_in {bc i : Int32} (h : ¬ hasF bc i = 0) : vp_in i 300 := by
  unfold hasF at h
  split at h
  · exact absurd rfl h
  · split at h
    · exact absurd rfl h
    · split at h
      · exact absurd rfl h
      · exact in_of (N := 300) (by decide) (by assumption) (by assumption)
theorem i_lt {x N : Int32} (h : ¬ N ≤ x) : x.toInt < N.toInt := by rw [Int32.le_iff_toInt_le] at h; omega
theorem nn_of {x : Int32} (h : 0 ≤ x.toInt) : ¬ x < 0 := by rw [Int32.lt_iff_toInt_lt, Int32.toInt_zero]; omega
theorem of_nn {x : Int32} (h : ¬ x < 0) : 0 ≤ x.toInt := by rw [Int32.lt_iff_toInt_lt, Int32.toInt_zero] at h; omega
theorem in_lt {x N : Int32} {n : Nat} (hN : N.toInt = n) (h0 : ¬ x < 0) (h1 : x < N) : vp_in x n := by
  rw [Int32.lt_iff_toInt_lt, hN] at h1
  exact vp_in_iff.mpr ⟨of_nn h0, h1⟩
theorem in_lt61 {x : Int32} (h0 : ¬ x < 0) (h1 : x < 60) : vp_in x 61 := by
  rw [Int32.lt_iff_toInt_lt, show (60 : Int32).toInt = 60 by decide] at h1
  exact vp_in_iff.mpr ⟨of_nn h0, by omega⟩
theorem in_lt1 {x : Int32} (h0 : ¬ x < 0) (h1 : x < 60) : vp_in (x + 1) 61 := by
  rw [Int32.lt_iff_toInt_lt, show (60 : Int32).toInt = 60 by decide] at h1
  have := of_nn h0
  exact vp_in_iff.mpr ⟨by rw [i32_1 (by omega)]; omega, by rw [i32_1 (by omega)]; omega⟩
theorem arrV_eq {c : ClassId} {N : Nat} {f g : Nat → Value} (h : ∀ j, j < N → f j = g j) : arrV c N f = arrV c N g := by
  have e : (fun j : Fin N => f j.val) = fun j : Fin N => g j.val := funext fun j => h j.val j.isLt
  unfold arrV
  rw [e]
theorem P_ai {D : va_G} {cl : List vw_C} {a N : Nat} {c : ClassId} {f g : Fn} {w : va_W} {H : Heap} (h : ∀ j, j < N → f j = g j) (hP : va_P D cl ((a, .inl (c, N, .inl f)) :: w) H) : va_P D cl ((a, .inl (c, N, .inl g)) :: w) H := by
  rw [P_iff] at hP ⊢
  intro q hq
  rcases List.mem_cons.mp hq with rfl | hq
  · have h1 : H[a]? = some (arrV c N (fun j => .int (f j))) := hP _ List.mem_cons_self
    rw [arrV_eq (g := fun j => .int (g j)) (fun j hj => by rw [h j hj])] at h1
    exact h1
  · exact hP q (List.mem_cons_of_mem _ hq)
theorem P_al {D : va_G} {cl : List vw_C} {a N : Nat} {c : ClassId} {f g : FL} {w : va_W} {H : Heap} (h : ∀ j, j < N → f j = g j) (hP : va_P D cl ((a, .inl (c, N, .inr (.inl f))) :: w) H) : va_P D cl ((a, .inl (c, N, .inr (.inl g))) :: w) H := by
  rw [P_iff] at hP ⊢
  intro q hq
  rcases List.mem_cons.mp hq with rfl | hq
  · have h1 : H[a]? = some (arrV c N (fun j => .long (f j))) := hP _ List.mem_cons_self
    rw [arrV_eq (g := fun j => .long (g j)) (fun j hj => by rw [h j hj])] at h1
    exact h1
  · exact hP q (List.mem_cons_of_mem _ hq)
theorem D_ai {A : Nat → Prop} {a : Nat} {x y : va_E} {w : va_W} (h : va_D A ((a, x) :: w)) : va_D A ((a, y) :: w) := by
  rw [D_iff] at h ⊢
  refine ⟨by simpa using h.1, fun q hq => ?_⟩
  rcases List.mem_cons.mp hq with rfl | hq
  · exact h.2 (a, x) List.mem_cons_self
  · exact h.2 q (List.mem_cons_of_mem _ hq)
theorem clN {i : Int32} (h : 0 ≤ i.toInt) : (i.toNatClampNeg : Int) = i.toInt := by
  show (i.toInt.toNat : Int) = i.toInt
  omega
theorem fill_s {f : Fn} {i v : Int32} (h0 : 0 ≤ i.toInt) (h1 : i.toInt < 2147483647) (h : ∀ j : Nat, (j : Int) < i.toInt → f j = v) (j : Nat) (hj : (j : Int) < (i + 1).toInt) : upd f i.toNatClampNeg v j = v := by
  rw [i32_1 h1] at hj
  have := clN h0
  by_cases e : j = i.toNatClampNeg
  · rw [e]; exact pk_us
  · rw [pk_un e]; exact h j (by omega)
theorem fill_l {f : FL} {i : Int32} {v : Int64} (h0 : 0 ≤ i.toInt) (h1 : i.toInt < 2147483647) (h : ∀ j : Nat, (j : Int) < i.toInt → f j = v) (j : Nat) (hj : (j : Int) < (i + 1).toInt) : vp_updL f i.toNatClampNeg v j = v := by
  rw [i32_1 h1] at hj
  have := clN h0
  by_cases e : j = i.toNatClampNeg
  · rw [e]; exact pk_uLs
  · rw [pk_uLn e]; exact h j (by omega)
theorem lenOf_rng (c : Int32) : 0 ≤ (lenOf c).toInt ∧ (lenOf c).toInt ≤ 5 := by
  unfold lenOf
  repeat' split
  all_goals decide
theorem i32_add {x y : Int32} (h1 : -2147483648 ≤ x.toInt + y.toInt) (h2 : x.toInt + y.toInt < 2147483648) : (x + y).toInt = x.toInt + y.toInt := by
  rw [Int32.toInt_add]
  exact Int.bmod_eq_of_le (by omega) (by omega)
theorem i_le {x : Int32} (h : (300 : Int32) ≤ x) : 300 ≤ x.toInt := by rw [Int32.le_iff_toInt_le, show (300 : Int32).toInt = 300 by decide] at h; exact h
theorem i_le4 {x : Int32} (h : (4 : Int32) ≤ x) : 4 ≤ x.toInt := by rw [Int32.le_iff_toInt_le, show (4 : Int32).toInt = 4 by decide] at h; exact h
theorem vc_n {a : Int32} {c : Int32} {n : Nat} (hn : 305 ≤ a.toInt + ((n + 1 : Nat) : Int)) (h0 : 0 ≤ a.toInt) (h3 : ¬ (300 : Int32) ≤ a) (hl : ¬ lenOf c < 1) : 305 ≤ (a + lenOf c).toInt + (n : Int) := by
  have h4 := i_lt h3
  have h5 := lenOf_rng c
  rw [show (300 : Int32).toInt = 300 by decide] at h4
  rw [Int32.lt_iff_toInt_lt, show (1 : Int32).toInt = 1 by decide] at hl
  rw [i32_add (by omega) (by omega)]
  omega
theorem vc_i {a : Int32} {c : Int32} (h0 : 0 ≤ a.toInt) (h3 : ¬ (300 : Int32) ≤ a) : 0 ≤ (a + lenOf c).toInt ∧ (a + lenOf c).toInt ≤ 304 := by
  have h4 := i_lt h3
  have h5 := lenOf_rng c
  rw [show (300 : Int32).toInt = 300 by decide] at h4
  rw [i32_add (by omega) (by omega)]
  omega
theorem P_sw2 {D : va_G} {cl : List vw_C} {x y a b c : va_W} {H : Heap} (h : va_P D cl (x ++ (y ++ (a ++ (b ++ c)))) H) : va_P D cl (x ++ (y ++ (b ++ (a ++ c)))) H := P_perm (((List.perm_append_comm_assoc a b c).append_left y).append_left x) h
theorem D_sw2 {A : Nat → Prop} {x y a b c : va_W} (h : va_D A (x ++ (y ++ (a ++ (b ++ c))))) : va_D A (x ++ (y ++ (b ++ (a ++ c)))) := D_perm (((List.perm_append_comm_assoc a b c).append_left y).append_left x) h
theorem P_sw3 {D : va_G} {cl : List vw_C} {x y z a b c : va_W} {H : Heap} (h : va_P D cl (x ++ (y ++ (z ++ (a ++ (b ++ c))))) H) : va_P D cl (x ++ (y ++ (z ++ (b ++ (a ++ c))))) H := P_perm ((((List.perm_append_comm_assoc a b c).append_left z).append_left y).append_left x) h
theorem D_sw3 {A : Nat → Prop} {x y z a b c : va_W} (h : va_D A (x ++ (y ++ (z ++ (a ++ (b ++ c)))))) : va_D A (x ++ (y ++ (z ++ (b ++ (a ++ c))))) := D_perm ((((List.perm_append_comm_assoc a b c).append_left z).append_left y).append_left x) h
theorem isReg_in {i : Int32} (h : ¬ isReg i = 0) : vp_in i 4 := by
  unfold isReg at h
  split at h
  · exact absurd rfl h
  · split at h
    · exact absurd rfl h
    · exact in_of (N := 4) (by decide) (by assumption) (by assumption)
theorem h4_1 {x : Int32} (h : 0 ≤ x.toInt ∧ x.toInt ≤ 4) (c : ¬ (4 : Int32) ≤ x) : 0 ≤ (x + 1).toInt ∧ (x + 1).toInt ≤ 4 := by
  have := i_lt c
  rw [show (4 : Int32).toInt = 4 by decide] at this
  rw [i32_1 (by omega)]
  omega
theorem i32_m {x : Int32} (h : -2147483648 < x.toInt) : (x - 1).toInt = x.toInt - 1 := by
  have h1 := Int32.toInt_lt x
  rw [Int32.toInt_sub, show (1 : Int32).toInt = 1 by decide]
  exact Int.bmod_eq_of_le (by omega) (by omega)
theorem h4_m {x : Int32} (h : 0 ≤ x.toInt ∧ x.toInt ≤ 4) (c : (1 : Int32) ≤ x) : 0 ≤ (x - 1).toInt ∧ (x - 1).toInt ≤ 4 := by
  rw [Int32.le_iff_toInt_le, show (1 : Int32).toInt = 1 by decide] at c
  rw [i32_m (by omega)]
  omega
theorem in4_m {x : Int32} (h : 0 ≤ x.toInt ∧ x.toInt ≤ 4) (c : (1 : Int32) ≤ x) : vp_in (x - 1) 4 := by
  rw [Int32.le_iff_toInt_le, show (1 : Int32).toInt = 1 by decide] at c
  exact vp_in_iff.mpr (by rw [i32_m (by omega)]; omega)
theorem in4_z {x : Int32} (h : 0 ≤ x.toInt ∧ x.toInt ≤ 4) (c : ¬ x ≤ 0) : vp_in (x - 1) 4 := by
  rw [Int32.le_iff_toInt_le, Int32.toInt_zero] at c
  exact vp_in_iff.mpr (by rw [i32_m (by omega)]; omega)
theorem in_m60 {ic a : Int32} (hic : ¬ ic < 0) (h0 : ¬ a < 0) (h1 : ¬ minF ic 60 ≤ a) : vp_in a 60 := by
  have h2 := i_lt h1
  have h3 : (minF ic 60).toInt ≤ 60 := by
    unfold minF
    split
    · exact Int.le_of_eq (by decide)
    · rename_i h
      rw [Int32.lt_iff_toInt_lt, show (60 : Int32).toInt = 60 by decide] at h
      omega
  exact vp_in_iff.mpr ⟨of_nn h0, by omega⟩
section MZ
variable {p : Program} {l : Launch} {e : Env} {R : Room} {s : State} {m : MethodId} {args : Array Value} {below : List Frame} {meth : Method} {c : Code} {H : Heap} {locs : List Loc} {cells slots : Nat}
variable {cc : ByteArray} {pc : Nat} {ls : Array Slot} {D : va_G} {A : Nat → Prop} {S : Type} {w1 : S → va_W}
theorem retMz {post : Int32 → S → Prop} {v : Int32} (u : S) (hx : p.tables.exec = Jvm.exec) (hb : c.code = cc) (hr : meth.sig.returnType = some .boolean) (hlocks : meth.locks = false) (hn : narrow .boolean (.int v) = .int v) (hP : va_P D vwCl (w1 u) H) (hD : va_D A (w1 u)) (hS : va_S A s.heap H locs) (hu : post v u) (hd : decode cc pc = .ok (.ireturn, 1)) : W p l e R s m args below meth c H locs cells slots (MQ below (va_Qi post (QB D w1 A) A) args s cells slots A) (F0 m pc ls [.int v]) :=
  W.zret hx hb hr hn (fun t ht _ => ⟨⟨v, u, rfl, hu, by rw [ht]; exact hP, hD⟩, hS.F ht⟩) hS.2.2 hd hlocks
end MZ
