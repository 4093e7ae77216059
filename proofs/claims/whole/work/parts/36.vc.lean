/-! the checker's turn, by what the reference asks -/
def okY (b : Fn) : Prop := ∀ j : Nat, j < 300 → 0 ≤ (b j).toInt ∧ (b j).toInt ≤ 255
theorem i32_ext {x y : Int32} (h : x.toInt = y.toInt) : x = y := Int32.toInt_inj.mp h
theorem zco_c {c : Int32} (h : ¬ zcoF c = 0) : c = 1 ∨ c = 2 ∨ c = 3 ∨ c = 4 ∨ c = 5 ∨ c = 6 ∨ c = 7 ∨ c = 8 ∨ c = 9 ∨ c = 10 ∨ c = 16 := by
  unfold zcoF at h
  split at h
  · split at h
    · rename_i q; simp [q]
    · exact absurd rfl h
  · rename_i q
    have q := wi_r q
    rw [show (1 : Int32).toInt = 1 by decide, show (10 : Int32).toInt = 10 by decide] at q
    have z : ∀ (k : Int32) (a : Int), k.toInt = a → c.toInt = a → c = k := fun k a h1 h2 => i32_ext (by rw [h1, h2])
    rcases (show c.toInt = 1 ∨ c.toInt = 2 ∨ c.toInt = 3 ∨ c.toInt = 4 ∨ c.toInt = 5 ∨ c.toInt = 6 ∨ c.toInt = 7 ∨ c.toInt = 8 ∨ c.toInt = 9 ∨ c.toInt = 10 by omega) with h | h | h | h | h | h | h | h | h | h
    · have := z 1 1 (by decide) h; simp [this]
    · have := z 2 2 (by decide) h; simp [this]
    · have := z 3 3 (by decide) h; simp [this]
    · have := z 4 4 (by decide) h; simp [this]
    · have := z 5 5 (by decide) h; simp [this]
    · have := z 6 6 (by decide) h; simp [this]
    · have := z 7 7 (by decide) h; simp [this]
    · have := z 8 8 (by decide) h; simp [this]
    · have := z 9 9 (by decide) h; simp [this]
    · have := z 10 10 (by decide) h; simp [this]
theorem zco_f {c : Int32} (h : ¬ zcoF c = 0) : lenOf c = zleF c ∧ takenF c = ztaF c ∧ addedF c = zpuF c ∧ ¬ lenOf c < 1 ∧ (¬ (3 : Int32) ≤ c → c = 1 ∨ c = 2) ∧ ((3 : Int32) ≤ c → ¬ c = 1 ∧ ¬ c = 2) := by
  rcases zco_c h with rfl | rfl | rfl | rfl | rfl | rfl | rfl | rfl | rfl | rfl | rfl <;> decide
theorem zco_0 {c : Int32} (h : zcoF c = 0) : lenOf c < 1 := by
  have z : ∀ k : Int32, ¬ zcoF k = 0 → ¬ c = k := fun k q e => q (e ▸ h)
  unfold lenOf
  rw [if_neg (z 1 (by decide)), if_neg (z 2 (by decide)), if_neg (z 3 (by decide)), if_neg (z 4 (by decide)), if_neg (z 5 (by decide)), if_neg (z 6 (by decide)), if_neg (z 7 (by decide)), if_neg (z 8 (by decide)), if_neg (z 9 (by decide)), if_neg (z 10 (by decide)), if_neg (z 16 (by decide))]
  decide
theorem rdF1 {b : Fn} {bc i : Int32} (h0 : 0 ≤ i.toInt) (h1 : i.toInt < bc.toInt) (hb : bc.toInt ≤ 300) : rdF b bc i = b i.toNatClampNeg := by
  unfold rdF hasF
  rw [if_neg (nn_of h0), if_neg (show ¬ bc ≤ i by rw [Int32.le_iff_toInt_le]; omega), if_neg (show ¬ (300 : Int32) ≤ i by rw [Int32.le_iff_toInt_le, show (300 : Int32).toInt = 300 by decide]; omega), if_neg (by decide)]
theorem isReg_le {x : Int32} (h : 0 ≤ x.toInt) : isReg x = 0 ↔ ¬ x ≤ 3 := by
  have h4 : (4 : Int32).toInt = 4 := by decide
  have h3 : (3 : Int32).toInt = 3 := by decide
  unfold isReg
  rw [if_neg (nn_of h)]
  by_cases q : (4 : Int32) ≤ x
  · rw [if_pos q]
    rw [Int32.le_iff_toInt_le, h4] at q
    exact ⟨fun _ => by rw [Int32.le_iff_toInt_le, h3]; omega, fun _ => rfl⟩
  · rw [if_neg q]
    rw [Int32.le_iff_toInt_le, h4] at q
    exact ⟨fun z => absurd z (by decide), fun z => absurd (by rw [Int32.le_iff_toInt_le, h3]; omega) z⟩
theorem nle {x y : Int32} : ¬ x ≤ y ↔ y < x := by rw [Int32.le_iff_toInt_le, Int32.lt_iff_toInt_lt]; omega
theorem nlt {x y : Int32} : ¬ x < y ↔ y ≤ x := by rw [Int32.le_iff_toInt_le, Int32.lt_iff_toInt_lt]; omega
/-- what is asked behind the code itself -/
def vcT (b : Fn) (bc : Int32) (n : Nat) (at1 dp c : Int32) (d : Fn) : Int32 × Fn :=
  if dp < ztaF c then (1 + at1, d) else if c = 10 then (if dp = 0 then (if bc ≤ at1 + 1 then (0, upd d at1.toNatClampNeg dp) else (1 + (at1 + 1), upd d at1.toNatClampNeg dp)) else (1 + at1, upd d at1.toNatClampNeg dp))
  else if 4 < dp - ztaF c + zpuF c then (1 + at1, upd d at1.toNatClampNeg dp) else vcL b bc n (at1 + zleF c) (dp - ztaF c + zpuF c) (upd d at1.toNatClampNeg dp)
theorem vcR {b : Fn} {bc at1 dp : Int32} {n : Nat} {d : Fn} (h0 : 0 ≤ at1.toInt) (h1 : ¬ bc ≤ at1) (hb : bc.toInt ≤ 300) (hY : okY b) : vcL b bc (n + 1) at1 dp d =
    if zcoF (b at1.toNatClampNeg) = 0 then (1 + at1, d) else if at1 + zleF (b at1.toNatClampNeg) ≤ bc then
      (if (3 : Int32) ≤ b at1.toNatClampNeg then vcT b bc n at1 dp (b at1.toNatClampNeg) d else if b (at1 + 1).toNatClampNeg ≤ 3 then vcT b bc n at1 dp (b at1.toNatClampNeg) d else (1 + at1, d)) else (1 + at1, d) := by
  have h2 := i_lt h1
  have h3 : ¬ (300 : Int32) ≤ at1 := by rw [Int32.le_iff_toInt_le, show (300 : Int32).toInt = 300 by decide]; omega
  simp only [vcL, if_neg h1, if_neg h3, rdF1 h0 h2 hb]
  generalize hc : b at1.toNatClampNeg = c
  by_cases z : zcoF c = 0
  · rw [if_pos z, if_pos (zco_0 z)]
  · obtain ⟨e1, e2, e3, e4, e5, e6⟩ := zco_f z
    have T : (if takenF c ≤ dp then (if c = 10 then (endF bc at1 dp, upd d at1.toNatClampNeg dp) else if dp - takenF c + addedF c ≤ 4 then vcL b bc n (at1 + lenOf c) (dp - takenF c + addedF c) (upd d at1.toNatClampNeg dp) else (1 + at1, upd d at1.toNatClampNeg dp)) else (1 + at1, d)) = vcT b bc n at1 dp c d := by
      rw [e1, e2, e3]
      unfold vcT
      by_cases q : dp < ztaF c
      · rw [if_pos q, if_neg (nle.mpr q)]
      · rw [if_neg q, if_pos (nlt.mp q)]
        by_cases q1 : c = 10
        · rw [if_pos q1, if_pos q1]
          unfold endF
          by_cases q2 : dp = 0
          · rw [if_pos q2, if_pos q2]
            by_cases q3 : bc ≤ at1 + 1
            · rw [if_pos q3, if_pos q3]
            · rw [if_neg q3, if_neg q3]
          · rw [if_neg q2, if_neg q2]
        · rw [if_neg q1, if_neg q1]
          by_cases q2 : 4 < dp - ztaF c + zpuF c
          · rw [if_pos q2, if_neg (nle.mpr q2)]
          · rw [if_neg q2, if_pos (nlt.mp q2)]
    rw [if_neg z, if_neg e4]
    unfold wholeF
    rw [e1]
    by_cases w : at1 + zleF c ≤ bc
    · rw [if_pos w, if_pos w]
      by_cases q : (3 : Int32) ≤ c
      · rw [if_pos q, if_neg (e6 q).1, if_neg (e6 q).2, if_neg (by decide)]
        rw [← e1]; exact T
      · rw [if_neg q]
        have r : (if c = 1 then (if isReg (rdF b bc (at1 + 1)) = 0 then (0 : Int32) else 1) else if c = 2 then (if isReg (rdF b bc (at1 + 1)) = 0 then 0 else 1) else 1) = (if isReg (rdF b bc (at1 + 1)) = 0 then 0 else 1) := by
          rcases e5 q with rfl | rfl <;> rfl
        rw [r]
        have l2 : zleF c = 2 := by rcases e5 q with rfl | rfl <;> rfl
        rw [l2, Int32.le_iff_toInt_le, i32_add (by rw [show (2 : Int32).toInt = 2 by decide]; omega) (by rw [show (2 : Int32).toInt = 2 by decide]; omega), show (2 : Int32).toInt = 2 by decide] at w
        have h4 : (at1 + 1).toInt = at1.toInt + 1 := i32_1 (by omega)
        have h5 := clN (i := at1 + 1) (by omega)
        rw [rdF1 (by omega) (by omega) hb]
        have h6 := (hY (at1 + 1).toNatClampNeg (by omega)).1
        by_cases g : b (at1 + 1).toNatClampNeg ≤ 3
        · rw [if_pos g, if_neg (fun x => (isReg_le h6).mp x g), if_neg (by decide)]
          rw [← e1]; exact T
        · rw [if_neg g, if_pos ((isReg_le h6).mpr g), if_pos rfl]
    · rw [if_neg w, if_neg w, if_pos rfl]
/-- what the depths are behind a check: none, or of a code that stands whole -/
def VD (b : Fn) (bc : Int32) (d : Fn) : Prop := ∀ j : Nat, d j = -1 ∨ (0 ≤ (d j).toInt ∧ (d j).toInt ≤ 4 ∧ (j : Int) + (lenOf (b j)).toInt ≤ bc.toInt ∧ ¬ lenOf (b j) < 1)
theorem ta_rng (c : Int32) : 0 ≤ (ztaF c).toInt ∧ (ztaF c).toInt ≤ 2 ∧ 0 ≤ (zpuF c).toInt ∧ (zpuF c).toInt ≤ 1 := by
  unfold ztaF zpuF
  refine ⟨?_, ?_, ?_, ?_⟩ <;> repeat' split
  all_goals decide
theorem vd_u {b : Fn} {bc at1 dp : Int32} {d : Fn} (h : VD b bc d) (h0 : 0 ≤ at1.toInt) (hd : 0 ≤ dp.toInt ∧ dp.toInt ≤ 4) (hb : bc.toInt ≤ 300) (h1 : at1.toInt < bc.toInt) (z : ¬ zcoF (b at1.toNatClampNeg) = 0) (w : at1 + zleF (b at1.toNatClampNeg) ≤ bc) : VD b bc (upd d at1.toNatClampNeg dp) := by
  intro j
  by_cases e : j = at1.toNatClampNeg
  · subst e
    rw [pk_us]
    obtain ⟨e1, -, -, e4, -, -⟩ := zco_f z
    have r := lenOf_rng (b at1.toNatClampNeg)
    have h2 := clN h0
    rw [Int32.le_iff_toInt_le, ← e1, i32_add (by omega) (by omega)] at w
    exact Or.inr ⟨hd.1, hd.2, by omega, e4⟩
  · rw [pk_un e]; exact h j
theorem dp_n {dp c : Int32} (hd : 0 ≤ dp.toInt ∧ dp.toInt ≤ 4) (q : ¬ dp < ztaF c) (q2 : ¬ 4 < dp - ztaF c + zpuF c) : 0 ≤ (dp - ztaF c + zpuF c).toInt ∧ (dp - ztaF c + zpuF c).toInt ≤ 4 := by
  have r := ta_rng c
  rw [Int32.lt_iff_toInt_lt] at q q2
  have e1 : (dp - ztaF c).toInt = dp.toInt - (ztaF c).toInt := by rw [Int32.toInt_sub]; exact Int.bmod_eq_of_le (by omega) (by omega)
  have e2 : (dp - ztaF c + zpuF c).toInt = dp.toInt - (ztaF c).toInt + (zpuF c).toInt := by rw [i32_add (by rw [e1]; omega) (by rw [e1]; omega), e1]
  rw [show (4 : Int32).toInt = 4 by decide] at q2
  omega
theorem le_n {at1 c bc : Int32} (h0 : 0 ≤ at1.toInt) (h1 : at1.toInt < bc.toInt) (hb : bc.toInt ≤ 300) (z : ¬ zcoF c = 0) : (at1 + zleF c).toInt = at1.toInt + (zleF c).toInt ∧ 1 ≤ (zleF c).toInt ∧ (zleF c).toInt ≤ 5 := by
  obtain ⟨e1, -, -, e4, -, -⟩ := zco_f z
  have r := lenOf_rng c
  rw [Int32.lt_iff_toInt_lt, show (1 : Int32).toInt = 1 by decide] at e4
  rw [e1] at r e4
  exact ⟨i32_add (by omega) (by omega), by omega, r.2⟩
theorem vc_VD {b : Fn} {bc : Int32} (hb : bc.toInt ≤ 300) (hY : okY b) : ∀ (n : Nat) (at1 dp : Int32) (d : Fn), 0 ≤ at1.toInt → at1.toInt ≤ 304 → 0 ≤ dp.toInt ∧ dp.toInt ≤ 4 → VD b bc d → VD b bc (vcL b bc n at1 dp d).2 := by
  intro n
  induction n with
  | zero => intro at1 dp d _ _ _ h; exact h
  | succ n ih =>
    intro at1 dp d h0 h9 hd h
    by_cases c1 : bc ≤ at1
    · simp only [vcL, if_pos c1]; exact h
    · have h2 := i_lt c1
      rw [vcR h0 c1 hb hY]
      split
      · exact h
      · rename_i z
        split
        · rename_i w
          have T : VD b bc (vcT b bc n at1 dp (b at1.toNatClampNeg) d).2 := by
            have h7 := vd_u h h0 hd hb h2 z w
            unfold vcT
            split
            · exact h
            · rename_i q
              split
              · split
                · split <;> exact h7
                · exact h7
              · split
                · exact h7
                · rename_i q2
                  obtain ⟨l1, l2, l3⟩ := le_n (c := b at1.toNatClampNeg) h0 h2 hb z
                  exact ih _ _ _ (by omega) (by omega) (dp_n hd q q2) h7
          split
          · exact T
          · split
            · exact T
            · exact h
        · exact h
theorem vcF_VD {b : Fn} {bc : Int32} (hb : bc.toInt ≤ 300) (hY : okY b) : VD b bc (vcF b bc).2 := vc_VD hb hY _ _ _ _ (by decide) (by decide) (by decide) (fun _ => Or.inl rfl)
