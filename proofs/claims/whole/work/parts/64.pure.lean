/-! both sides: pure rows -/
def vN (n : Nat) (f : Fn) (i : Nat) : Fn := fun j => f (n * i + j)
def nt (o e : Fn) (ic : Int32) : Fn := fun j => if (j : Int) ≤ ic.toInt then stN o e j else 0
abbrev AD : Type := Nat × Nat × Nat × Nat × Nat × Nat
/-- the class's blocks, as the reference's rows have them -/
def bkZ (ad : Nat → AD) (mn oo oa ob ss gg zz md : Fn) : Nat → BK := fun i => (ad i, (vN 60 oo i, vN 60 oa i, vN 60 ob i, nt (vN 60 oo i) (vN 60 ob i) (mn i), vN 300 md i), (mn i, (if ss i = 0 then 0 else zz i), ss i, (if ss i = 0 then -1 else gg i)))
def BKe (z z' : BK) : Prop := z.1 = z'.1 ∧ (∀ j, j < 60 → z.2.1.1 j = z'.2.1.1 j) ∧ (∀ j, j < 60 → z.2.1.2.1 j = z'.2.1.2.1 j) ∧ (∀ j, j < 60 → z.2.1.2.2.1 j = z'.2.1.2.2.1 j) ∧ (∀ j, j < 61 → z.2.1.2.2.2.1 j = z'.2.1.2.2.2.1 j) ∧ (∀ j, j < 300 → z.2.1.2.2.2.2 j = z'.2.1.2.2.2.2 j) ∧ z.2.2 = z'.2.2
theorem BKe.rf (z : BK) : BKe z z := ⟨rfl, fun _ _ => rfl, fun _ _ => rfl, fun _ _ => rfl, fun _ _ => rfl, fun _ _ => rfl, rfl⟩
def IV (nb : Nat) (mn oo oa ob ss gg zz md : Fn) : Prop := (∀ j, j < 24 → 0 ≤ (mn j).toInt ∧ (mn j).toInt ≤ 60) ∧ (∀ j, j < 24 → 0 ≤ (zz j).toInt ∧ (zz j).toInt ≤ 300) ∧ okY7 md ∧ okA mn oo oa ob ∧ okH ss zz md ∧ (∀ j, j < 24 → ss j = 0 ∨ ss j = 1 ∨ ss j = 2) ∧
  (∀ j, nb ≤ j → j < 24 → mn j = 0 ∧ ss j = 0 ∧ (∀ i, i < 60 → oo (60 * j + i) = 0 ∧ oa (60 * j + i) = 0 ∧ ob (60 * j + i) = 0) ∧ (∀ i, i < 300 → md (300 * j + i) = 0))
theorem lt32 {x y : Int32} : x < y ↔ x.toInt < y.toInt := Int32.lt_iff_toInt_lt
theorem le32 {x y : Int32} : x ≤ y ↔ x.toInt ≤ y.toInt := Int32.le_iff_toInt_le
theorem ext32 {x y : Int32} (h : x.toInt = y.toInt) : x = y := Int32.toInt_inj.mp h
theorem wiF0 {v lo hi : Int32} : wiF v lo hi = 0 ↔ (v.toInt < lo.toInt ∨ hi.toInt < v.toInt) := by
  unfold wiF
  split
  · rename_i h; exact ⟨fun _ => Or.inl (lt32.mp h), fun _ => rfl⟩
  · rename_i h
    split
    · rename_i h2; exact ⟨fun _ => Or.inr (lt32.mp h2), fun _ => rfl⟩
    · rename_i h2
      refine ⟨fun h3 => absurd h3 (by decide), fun h3 => ?_⟩
      rcases h3 with h3 | h3
      · exact absurd (lt32.mpr h3) h
      · exact absurd (lt32.mpr h3) h2
theorem inB_iff {bi : Int32} {nb : Nat} (hnb : nb ≤ 24) : inB bi nb ↔ (0 ≤ bi.toInt ∧ bi.toInt < nb) := by
  unfold inB
  rw [lt32, lt32, Int32.toInt_zero, nI_int (by omega)]
  omega
theorem nI_m1 {nb : Nat} (hnb : nb ≤ 24) : (nI nb - 1).toInt = (nb : Int) - 1 := by
  rw [i32_m (by rw [nI_int (by omega)]; omega), nI_int (by omega)]
theorem wiB {k : Int32} {nb : Nat} (hnb : nb ≤ 24) : wiF k 0 (nI nb - 1) = 0 ↔ ¬ inB k nb := by
  rw [wiF0, inB_iff hnb, nI_m1 hnb, Int32.toInt_zero]
  omega
theorem isReg0 {r : Int32} : isReg r = 0 ↔ (r.toInt < 0 ∨ 3 < r.toInt) := by
  have e4 : (4 : Int32).toInt = 4 := by decide
  unfold isReg
  split
  · rename_i h; rw [lt32, Int32.toInt_zero] at h; exact ⟨fun _ => Or.inl h, fun _ => rfl⟩
  · rename_i h; rw [lt32, Int32.toInt_zero] at h
    split
    · rename_i h2; rw [le32, e4] at h2; exact ⟨fun _ => Or.inr (by omega), fun _ => rfl⟩
    · rename_i h2; rw [le32, e4] at h2
      exact ⟨fun h3 => absurd h3 (by decide), fun h3 => by omega⟩
theorem isReg_wi (r : Int32) : isReg r = 0 ↔ wiF r 0 3 = 0 := by
  rw [isReg0, wiF0, Int32.toInt_zero, show (3 : Int32).toInt = 3 by decide]
theorem hasF0 {bc i : Int32} : hasF bc i = 0 ↔ (i.toInt < 0 ∨ bc.toInt ≤ i.toInt ∨ 300 ≤ i.toInt) := by
  have e3 : (300 : Int32).toInt = 300 := by decide
  unfold hasF
  split
  · rename_i h; rw [lt32, Int32.toInt_zero] at h; exact ⟨fun _ => Or.inl h, fun _ => rfl⟩
  · rename_i h; rw [lt32, Int32.toInt_zero] at h
    split
    · rename_i h2; rw [le32] at h2; exact ⟨fun _ => Or.inr (Or.inl h2), fun _ => rfl⟩
    · rename_i h2; rw [le32] at h2
      split
      · rename_i h4; rw [le32, e3] at h4; exact ⟨fun _ => Or.inr (Or.inr h4), fun _ => rfl⟩
      · rename_i h4; rw [le32, e3] at h4
        exact ⟨fun h3 => absurd h3 (by decide), fun h3 => by omega⟩
theorem has_wi {z i : Int32} (hz : 0 ≤ z.toInt ∧ z.toInt ≤ 300) : hasF z i = 0 ↔ wiF i 0 (z - 1) = 0 := by
  rw [hasF0, wiF0, i32_m (by omega), Int32.toInt_zero]
  omega
theorem zin_iff (o x y : Int32) : zinF o x y = 0 ↔ (o < 0 ∨ 7 < o ∨ isReg x = 0 ∨ isOpnd o y = 0) := by
  have e7 : (7 : Int32).toInt = 7 := by decide
  have e60 : (60 : Int32).toInt = 60 := by decide
  unfold zinF
  by_cases h1 : wiF o 0 7 = 0
  · rw [if_pos h1]
    have h2 := wiF0.mp h1
    rw [Int32.toInt_zero, e7] at h2
    refine ⟨fun _ => ?_, fun _ => rfl⟩
    rcases h2 with h | h
    · exact Or.inl (lt32.mpr (by rw [Int32.toInt_zero]; exact h))
    · exact Or.inr (Or.inl (lt32.mpr (by rw [e7]; exact h)))
  rw [if_neg h1]
  have n1 : ¬ o < 0 := fun h => h1 (wiF0.mpr (Or.inl (lt32.mp h)))
  have n2 : ¬ 7 < o := fun h => h1 (wiF0.mpr (Or.inr (lt32.mp h)))
  by_cases h2 : wiF x 0 3 = 0
  · rw [if_pos h2]
    exact ⟨fun _ => Or.inr (Or.inr (Or.inl ((isReg_wi x).mpr h2))), fun _ => rfl⟩
  rw [if_neg h2]
  have n3 : ¬ isReg x = 0 := fun h => h2 ((isReg_wi x).mp h)
  have key : (if o = 0 then (1 : Int32) else if o = 6 then (if wiF y 0 60 = 0 then 0 else 1) else (if wiF y 0 3 = 0 then 0 else 1)) = 0 ↔ isOpnd o y = 0 := by
    unfold isOpnd
    by_cases q0 : o = 0
    · rw [if_pos q0, if_pos q0]
    rw [if_neg q0, if_neg q0]
    by_cases q6 : o = 6
    · rw [if_pos q6, if_pos q6]
      by_cases h3 : wiF y 0 60 = 0
      · rw [if_pos h3]
        have h4 := wiF0.mp h3
        rw [Int32.toInt_zero, e60] at h4
        refine ⟨fun _ => ?_, fun _ => rfl⟩
        by_cases a : y < 0
        · rw [if_pos a]
        · rw [if_neg a, if_pos]
          rw [lt32, Int32.toInt_zero] at a
          rw [lt32, e60]; omega
      · rw [if_neg h3]
        refine ⟨fun h => absurd h (by decide), fun h => ?_⟩
        have h4 : ¬ (y.toInt < (0 : Int32).toInt ∨ (60 : Int32).toInt < y.toInt) := fun h5 => h3 (wiF0.mpr h5)
        rw [if_neg (fun q => h4 (Or.inl (lt32.mp q))), if_neg (fun q => h4 (Or.inr (lt32.mp q)))] at h
        exact absurd h (by decide)
    · rw [if_neg q6, if_neg q6, isReg_wi]
      by_cases h3 : wiF y 0 3 = 0
      · rw [if_pos h3]; exact ⟨fun _ => h3, fun _ => rfl⟩
      · rw [if_neg h3]; exact ⟨fun h => absurd h (by decide), fun h => absurd h h3⟩
  rw [key]
  refine ⟨fun h => Or.inr (Or.inr (Or.inr h)), fun h => ?_⟩
  rcases h with h | h | h | h
  · exact absurd h n1
  · exact absurd h n2
  · exact absurd h n3
  · exact h
theorem zin_ok {o x y : Int32} (h : ¬ zinF o x y = 0) : okI o x y := by
  have h1 := fun q => h ((zin_iff o x y).mpr q)
  have n1 : ¬ o < 0 := fun q => h1 (Or.inl q)
  have n2 : ¬ 7 < o := fun q => h1 (Or.inr (Or.inl q))
  have n3 : ¬ isReg x = 0 := fun q => h1 (Or.inr (Or.inr (Or.inl q)))
  have n4 : ¬ isOpnd o y = 0 := fun q => h1 (Or.inr (Or.inr (Or.inr q)))
  rw [lt32, Int32.toInt_zero] at n1
  rw [lt32, show (7 : Int32).toInt = 7 by decide] at n2
  rw [isReg0] at n3
  refine ⟨⟨by omega, by omega⟩, ⟨by omega, by omega⟩, ?_⟩
  unfold isOpnd at n4
  by_cases q0 : o = 0
  · exact Or.inl q0
  rw [if_neg q0] at n4
  by_cases q6 : o = 6
  · rw [if_pos q6] at n4
    refine Or.inr (Or.inl ⟨q6, ?_⟩)
    by_cases a : y < 0
    · rw [if_pos a] at n4; exact absurd rfl n4
    rw [if_neg a] at n4
    by_cases b : (60 : Int32) < y
    · rw [if_pos b] at n4; exact absurd rfl n4
    rw [lt32, Int32.toInt_zero] at a
    rw [lt32, show (60 : Int32).toInt = 60 by decide] at b
    omega
  · rw [if_neg q6, isReg0] at n4
    exact Or.inr (Or.inr ⟨q6, by omega, by omega⟩)
/-! bytes that agree where they are read -/
theorem rdF_congr {b b' : Fn} {bc : Int32} (h : ∀ j, j < 300 → b j = b' j) (i : Int32) : rdF b bc i = rdF b' bc i := by
  unfold rdF
  by_cases h1 : hasF bc i = 0
  · rw [if_pos h1, if_pos h1]
  · rw [if_neg h1, if_neg h1]
    have h2 : ¬ (i.toInt < 0 ∨ bc.toInt ≤ i.toInt ∨ 300 ≤ i.toInt) := fun q => h1 (hasF0.mpr q)
    have := clN (i := i) (by omega)
    exact h _ (by omega)
theorem vcL_congr {b b' : Fn} {bc : Int32} (h : ∀ i, rdF b bc i = rdF b' bc i) : ∀ (n : Nat) (at1 dp : Int32) (d : Fn), vcL b bc n at1 dp d = vcL b' bc n at1 dp d := by
  intro n
  induction n with
  | zero => intro at1 dp d; rfl
  | succ n ih =>
    intro at1 dp d
    unfold vcL wholeF
    rw [show rdF b bc = rdF b' bc from funext h, ih]
theorem vbL_congr {b b' : Fn} {bc : Int32} (d : Fn) (h : ∀ i, rdF b bc i = rdF b' bc i) : ∀ (n : Nat) (i : Int32), vbL b bc d n i = vbL b' bc d n i := by
  intro n
  induction n with
  | zero => intro i; rfl
  | succ n ih =>
    intro i
    unfold vbL rd2F
    rw [show rdF b bc = rdF b' bc from funext h, ih]
theorem vdF_congr {b b' : Fn} {bc : Int32} (h : ∀ j, j < 300 → b j = b' j) : vdF b bc = vdF b' bc := by
  have h1 := rdF_congr (bc := bc) h
  unfold vdF vcF
  rw [vcL_congr h1, vbL_congr _ h1]
/-! the pile's start doesn't matter -/
def pag (p p' : FL) (h : Int32) : Prop := ∀ j : Nat, (j : Int) < h.toInt → p j = p' j
theorem poV_ag {p p' : FL} {h : Int32} (a : pag p p' h) : poV (p, h) = poV (p', h) := by
  unfold poV
  by_cases c : (1 : Int32) ≤ h
  · rw [if_pos c, if_pos c]
    rw [le32, show (1 : Int32).toInt = 1 by decide] at c
    have e := i32_m (x := h) (by omega)
    have e2 := clN (i := h - 1) (by omega)
    show p (h - 1).toNatClampNeg = p' (h - 1).toNatClampNeg
    exact a _ (by omega)
  · rw [if_neg c, if_neg c]
theorem tzF_ag {p p' : FL} {h : Int32} (a : pag p p' h) : tzF (p, h) = tzF (p', h) := by
  unfold tzF
  by_cases c : h ≤ 0
  · rw [if_pos c, if_pos c]
  · rw [if_neg c, if_neg c]
    rw [le32, Int32.toInt_zero] at c
    have e := i32_m (x := h) (by omega)
    have e2 := clN (i := h - 1) (by omega)
    show (if lg_cmp (p (h - 1).toNatClampNeg) 0 = 0 then (1 : Int32) else 0) = if lg_cmp (p' (h - 1).toNatClampNeg) 0 = 0 then 1 else 0
    rw [a (h - 1).toNatClampNeg (by omega)]
def rel2 (s s' : Pi) : Prop := s.2 = s'.2 ∧ (0 ≤ s.2.toInt ∧ s.2.toInt ≤ 4) ∧ pag s.1 s'.1 s.2
theorem puF_ag {s s' : Pi} (v : Int64) (h : rel2 s s') : rel2 (puF v s) (puF v s') := by
  obtain ⟨p, hg⟩ := s
  obtain ⟨p', hg'⟩ := s'
  obtain ⟨e, hr, a⟩ := h
  dsimp only at e hr a
  subst e
  unfold puF
  by_cases c : (4 : Int32) ≤ hg
  · rw [if_pos c, if_pos c]; exact ⟨rfl, hr, a⟩
  · rw [if_neg c, if_neg c]
    refine ⟨rfl, h4_1 hr c, fun j hj => ?_⟩
    dsimp only at hj ⊢
    rw [i32_1 (by omega)] at hj
    have := clN hr.1
    by_cases e : j = hg.toNatClampNeg
    · rw [e, pk_uLs, pk_uLs]
    · rw [pk_uLn e, pk_uLn e]; exact a j (by omega)
theorem poF_ag {s s' : Pi} (h : rel2 s s') : rel2 (poF s) (poF s') := by
  obtain ⟨p, hg⟩ := s
  obtain ⟨p', hg'⟩ := s'
  obtain ⟨e, hr, a⟩ := h
  dsimp only at e hr a
  subst e
  unfold poF poH
  dsimp only
  by_cases c : (1 : Int32) ≤ hg
  · rw [if_pos c]
    refine ⟨rfl, h4_m hr c, fun j hj => ?_⟩
    dsimp only at hj ⊢
    rw [i32_m (by omega)] at hj
    exact a j (by omega)
  · rw [if_neg c]; exact ⟨rfl, hr, a⟩
theorem poV_rel {s s' : Pi} (h : rel2 s s') : poV s = poV s' := by
  obtain ⟨p, hg⟩ := s
  obtain ⟨p', hg'⟩ := s'
  obtain ⟨e, hr, a⟩ := h
  dsimp only at e hr a
  subst e
  exact poV_ag a
theorem tzF_rel {s s' : Pi} (h : rel2 s s') : tzF s = tzF s' := by
  obtain ⟨p, hg⟩ := s
  obtain ⟨p', hg'⟩ := s'
  obtain ⟨e, hr, a⟩ := h
  dsimp only at e hr a
  subst e
  exact tzF_ag a
theorem woF_ag {s s' : Pi} (op : Int32) (h : rel2 s s') : rel2 (woF op s) (woF op s') := by
  unfold woF
  rw [poV_rel h, poV_rel (poF_ag h)]
  exact puF_ag _ (poF_ag (poF_ag h))
theorem foF_ag {b : Fn} {bc at1 c : Int32} {g : FL} {s s' : Pi} {st : Int32} (h : rel2 s s') : (foF b bc at1 c g s st).1 = (foF b bc at1 c g s' st).1 ∧ (foF b bc at1 c g s st).2.1 = (foF b bc at1 c g s' st).2.1 ∧ rel2 (foF b bc at1 c g s st).2.2.1 (foF b bc at1 c g s' st).2.2.1 ∧ (foF b bc at1 c g s st).2.2.2 = (foF b bc at1 c g s' st).2.2.2 := by
  unfold foF
  split
  · exact ⟨rfl, rfl, puF_ag _ h, rfl⟩
  split
  · exact ⟨rfl, by rw [poV_rel h], poF_ag h, rfl⟩
  split
  · exact ⟨rfl, rfl, puF_ag _ h, rfl⟩
  split
  · exact ⟨by rw [poV_rel h], rfl, poF_ag h, rfl⟩
  split
  · exact ⟨rfl, rfl, puF_ag _ h, rfl⟩
  · exact ⟨rfl, rfl, woF_ag _ h, rfl⟩
theorem byL_ag (b : Fn) (bc : Int32) : ∀ (n : Nat) (k at1 : Int32) (g : FL) (s s' : Pi) (st : Int32), rel2 s s' → (byL b bc n k at1 g s st).1 = (byL b bc n k at1 g s' st).1 ∧ (byL b bc n k at1 g s st).2.2 = (byL b bc n k at1 g s' st).2.2 := by
  intro n
  induction n with
  | zero => intro k at1 g s s' st h; exact ⟨rfl, rfl⟩
  | succ n ih =>
    intro k at1 g s s' st h
    obtain ⟨e1, e2, e3, e4⟩ := foF_ag (b := b) (bc := bc) (at1 := at1) (c := rdF b bc at1) (g := g) (st := st) h
    unfold byL
    split
    · exact ⟨rfl, rfl⟩
    split
    · exact ⟨rfl, rfl⟩
    split
    · split
      · rw [tzF_rel h]
        split
        · rw [e1, e2, e4]; exact ih _ _ _ _ _ _ e3
        · exact ⟨rfl, rfl⟩
      · rw [e1, e2, e4]; exact ih _ _ _ _ _ _ e3
    · exact ⟨rfl, rfl⟩
def byAA (b : Fn) (bc : Int32) (g : FL) (p : FL) : FL × Pi × Int32 × Int32 := byL b bc 600301 0 0 g (p, 0) 0
theorem byAA_ag (b : Fn) (bc : Int32) (g p p' : FL) : (byAA b bc g p).1 = (byAA b bc g p').1 ∧ (byAA b bc g p).2.2 = (byAA b bc g p').2.2 :=
  byL_ag b bc 600301 0 0 g (p, 0) (p', 0) 0 ⟨rfl, show 0 ≤ (0 : Int32).toInt ∧ (0 : Int32).toInt ≤ 4 by decide, fun j hj => absurd hj (by simp)⟩
