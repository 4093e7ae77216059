/-- block k's part of a row of n places a block -/
def vw (n : Nat) (f : Fn) (k : Int32) : Fn := fun i => f (n * k.toNatClampNeg + i)
theorem cl60 {P : Prop} {k i : Int32} (hk : 0 ≤ k.toInt ∧ k.toInt < 24 ∧ P) (hi : 0 ≤ i.toInt ∧ i.toInt < 60) : (60 * k + i).toNatClampNeg = 60 * k.toNatClampNeg + i.toNatClampNeg := by
  have h1 := ix60 hk hi
  have h2 := clN (i := 60 * k + i) (by rw [h1]; omega)
  have h3 := clN hk.1
  have h4 := clN hi.1
  omega
theorem cl300 {P : Prop} {k i : Int32} (hk : 0 ≤ k.toInt ∧ k.toInt < 24 ∧ P) (hi : 0 ≤ i.toInt ∧ i.toInt < 300) : (300 * k + i).toNatClampNeg = 300 * k.toNatClampNeg + i.toNatClampNeg := by
  have h1 := ix300 hk hi
  have h2 := clN (i := 300 * k + i) (by rw [h1]; omega)
  have h3 := clN hk.1
  have h4 := clN hi.1
  omega
theorem vw60 {P : Prop} {f : Fn} {k i : Int32} (hk : 0 ≤ k.toInt ∧ k.toInt < 24 ∧ P) (hi : 0 ≤ i.toInt ∧ i.toInt < 60) : f (60 * k + i).toNatClampNeg = vw 60 f k i.toNatClampNeg := by rw [cl60 hk hi]; rfl
theorem vw300 {P : Prop} {f : Fn} {k i : Int32} (hk : 0 ≤ k.toInt ∧ k.toInt < 24 ∧ P) (hi : 0 ≤ i.toInt ∧ i.toInt < 300) : f (300 * k + i).toNatClampNeg = vw 300 f k i.toNatClampNeg := by rw [cl300 hk hi]; rfl
/-- an instruction as promise 3 lets it be told -/
def okI (o a b : Int32) : Prop := (0 ≤ o.toInt ∧ o.toInt ≤ 7) ∧ (0 ≤ a.toInt ∧ a.toInt ≤ 3) ∧ (o = 0 ∨ (o = 6 ∧ 0 ≤ b.toInt ∧ b.toInt ≤ 60) ∨ (¬ o = 6 ∧ 0 ≤ b.toInt ∧ b.toInt ≤ 3))
def okB (o a b : Fn) (n : Int32) : Prop := ∀ i : Nat, (i : Int) < n.toInt → okI (o i) (a i) (b i)
theorem isReg1 {x : Int32} (h : 0 ≤ x.toInt ∧ x.toInt ≤ 3) : ¬ isReg x = 0 := by
  unfold isReg
  rw [if_neg (nn_of h.1), if_neg (by rw [Int32.le_iff_toInt_le, show (4 : Int32).toInt = 4 by decide]; omega)]
  decide
theorem ldF1 {g : FL} {x : Int32} (h : 0 ≤ x.toInt ∧ x.toInt ≤ 3) : ldF g x = g x.toNatClampNeg := by unfold ldF; rw [if_neg (isReg1 h)]
theorem stF1 {g : FL} {x : Int32} {v : Int64} (h : 0 ≤ x.toInt ∧ x.toInt ≤ 3) : stF g x v = vp_updL g x.toNatClampNeg v := by unfold stF; rw [if_neg (isReg1 h)]
theorem in4 {x : Int32} (h : 0 ≤ x.toInt ∧ x.toInt ≤ 3) : vp_in x 4 := vp_in_iff.mpr ⟨h.1, by omega⟩
theorem okI.b {o a b : Int32} (h : okI o a b) (h0 : ¬ o = 0) (h6 : ¬ o = 6) : 0 ≤ b.toInt ∧ b.toInt ≤ 3 := by
  rcases h.2.2 with q | q | q
  · exact absurd q h0
  · exact absurd q.1 h6
  · exact q.2
theorem okI.j {o a b : Int32} (h : okI o a b) (h6 : o = 6) : 0 ≤ b.toInt ∧ b.toInt ≤ 60 := by
  rcases h.2.2 with q | q | q
  · exact absurd (h6.symm.trans q) (by decide)
  · exact q.2
  · exact absurd h6 q.1
theorem ro_i {n i : Int32} {m : Nat} (hm : 0 ≤ n.toInt ∧ n.toInt ≤ 60) (h : 0 ≤ i.toInt ∧ i.toInt ≤ 60) (c : ¬ n ≤ i) : 0 ≤ i.toInt ∧ i.toInt < 60 := by have := i_lt c; omega
theorem okB.at {o a b : Fn} {n i : Int32} (h : okB o a b n) (h0 : 0 ≤ i.toInt) (c : ¬ n ≤ i) : okI (o i.toNatClampNeg) (a i.toNatClampNeg) (b i.toNatClampNeg) := by
  have h1 := i_lt c
  have h2 := clN h0
  exact h _ (by omega)
/-- one turn of roL where the instruction is one that may stand, by what the reference asks -/
theorem roL_s {o f e : Fn} {sz at1 st : Int32} {g : FL} {n : Nat} (h0 : 0 ≤ at1.toInt) (hs : 0 ≤ st.toInt ∧ st.toInt ≤ 2000) (c : ¬ sz ≤ at1) : roL o f e sz (n + 1) at1 g st =
    if st = 2000 then (g, st, 2) else
    if o at1.toNatClampNeg = 4 then
      if lg_cmp (ldF g (e at1.toNatClampNeg)) 0 = 0 then (g, st, 1) else roL o f e sz n (at1 + 1) (stF g (f at1.toNatClampNeg) (resF g (o at1.toNatClampNeg) (f at1.toNatClampNeg) (e at1.toNatClampNeg))) (st + 1)
    else if o at1.toNatClampNeg = 6 then roL o f e sz n (if lg_cmp (ldF g (f at1.toNatClampNeg)) 0 = 0 then at1 + 1 else e at1.toNatClampNeg) g (st + 1)
    else roL o f e sz n (at1 + 1) (stF g (f at1.toNatClampNeg) (resF g (o at1.toNatClampNeg) (f at1.toNatClampNeg) (e at1.toNatClampNeg))) (st + 1) := by
  have h2 : (2000 : Int32).toInt = 2000 := by decide
  by_cases q : st = 2000
  · rw [if_pos q, q]
    simp only [roL, if_pos (show (2000 : Int32) ≤ 2000 by decide), if_neg c]
  · have q1 : ¬ (2000 : Int32) ≤ st := by
      rw [Int32.le_iff_toInt_le, h2]
      have : ¬ st.toInt = 2000 := fun z => q (Int32.toInt_inj.mp (by rw [h2]; exact z))
      omega
    rw [if_neg q]
    simp only [roL, if_neg q1, if_neg (nn_of h0), if_neg c]
    by_cases q4 : o at1.toNatClampNeg = 4
    · simp only [if_pos q4, if_neg (show ¬ o at1.toNatClampNeg = 6 by rw [q4]; decide)]
    · simp only [if_neg q4]
theorem roL_e {o f e : Fn} {sz at1 st : Int32} {g : FL} {n : Nat} (h0 : 0 ≤ at1.toInt) (c : sz ≤ at1) : roL o f e sz (n + 1) at1 g st = (g, st, 0) := by
  simp only [roL, if_neg (nn_of h0), if_pos c, ite_self]
