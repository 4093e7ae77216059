/-! what a check that finds nothing says of each code -/
def RBa (b : Fn) (bc : Int32) (d : Fn) (j : Nat) : Prop :=
  ¬ zcoF (b j) = 0 ∧ (j : Int) + (zleF (b j)).toInt ≤ bc.toInt ∧ (¬ (3 : Int32) ≤ b j → b (j + 1) ≤ 3) ∧ ¬ d j < ztaF (b j) ∧ (b j = 10 ∨ (¬ b j = 10 ∧ d (j + (zleF (b j)).toInt.toNat) = d j - ztaF (b j) + zpuF (b j) ∧ (j : Int) + (zleF (b j)).toInt < bc.toInt))
theorem vc_CH {b : Fn} {bc : Int32} (hb : bc.toInt ≤ 300) (hb0 : 0 ≤ bc.toInt) (hY : okY b) : ∀ (n : Nat) (at1 dp : Int32) (d0 : Fn), 0 ≤ at1.toInt → at1.toInt ≤ 304 → (vcL b bc n at1 dp d0).1 = 0 → 305 ≤ at1.toInt + (n : Int) →
    at1.toInt < bc.toInt ∧ (vcL b bc n at1 dp d0).2 at1.toNatClampNeg = dp ∧ (∀ j : Nat, j < at1.toNatClampNeg → (vcL b bc n at1 dp d0).2 j = d0 j) ∧ ∀ j : Nat, at1.toNatClampNeg ≤ j → (vcL b bc n at1 dp d0).2 j = d0 j ∨ RBa b bc (vcL b bc n at1 dp d0).2 j := by
  intro n
  induction n with
  | zero => intro at1 dp d0 _ h9 _ hn; exact absurd hn (by omega)
  | succ n ih =>
    intro at1 dp d0 h0 h9 hr hn
    by_cases c1 : bc ≤ at1
    · simp only [vcL, if_pos c1] at hr
      exact absurd hr (one_p hb0 (by omega))
    · have h2 := i_lt c1
      have ha := clN h0
      rw [vcR h0 c1 hb hY] at hr ⊢
      by_cases z : zcoF (b at1.toNatClampNeg) = 0
      · rw [if_pos z] at hr
        exact absurd hr (one_p h0 (by omega))
      · obtain ⟨l1, l2, l3⟩ := le_n (c := b at1.toNatClampNeg) h0 h2 hb z
        rw [if_neg z] at hr ⊢
        by_cases w : at1 + zleF (b at1.toNatClampNeg) ≤ bc
        · rw [if_pos w] at hr ⊢
          have w1 := i_pos w
          have T : ∀ (hreg : ¬ (3 : Int32) ≤ b at1.toNatClampNeg → b (at1.toNatClampNeg + 1) ≤ 3) (hq : (vcT b bc n at1 dp (b at1.toNatClampNeg) d0).1 = 0), at1.toInt < bc.toInt ∧ (vcT b bc n at1 dp (b at1.toNatClampNeg) d0).2 at1.toNatClampNeg = dp ∧ (∀ j : Nat, j < at1.toNatClampNeg → (vcT b bc n at1 dp (b at1.toNatClampNeg) d0).2 j = d0 j) ∧ ∀ j : Nat, at1.toNatClampNeg ≤ j → (vcT b bc n at1 dp (b at1.toNatClampNeg) d0).2 j = d0 j ∨ RBa b bc (vcT b bc n at1 dp (b at1.toNatClampNeg) d0).2 j := by
            intro hreg hq
            unfold vcT at hq ⊢
            by_cases q : dp < ztaF (b at1.toNatClampNeg)
            · rw [if_pos q] at hq
              exact absurd hq (one_p h0 (by omega))
            · rw [if_neg q] at hq ⊢
              by_cases e : b at1.toNatClampNeg = 10
              · rw [if_pos e] at hq ⊢
                by_cases e0 : dp = 0
                · rw [if_pos e0] at hq ⊢
                  by_cases e1 : bc ≤ at1 + 1
                  · rw [if_pos e1] at hq ⊢
                    refine ⟨h2, pk_us, fun j hj => pk_un (by omega), fun j hj => ?_⟩
                    by_cases ej : j = at1.toNatClampNeg
                    · subst ej
                      exact Or.inr ⟨z, by omega, hreg, by show ¬ upd d0 at1.toNatClampNeg dp at1.toNatClampNeg < _; rw [pk_us]; exact q, Or.inl e⟩
                    · exact Or.inl (pk_un ej)
                  · rw [if_neg e1] at hq
                    exact absurd hq (one_p (by rw [i32_1 (by omega)]; omega) (by rw [i32_1 (by omega)]; omega))
                · rw [if_neg e0] at hq
                  exact absurd hq (one_p h0 (by omega))
              · rw [if_neg e] at hq ⊢
                by_cases q4 : 4 < dp - ztaF (b at1.toNatClampNeg) + zpuF (b at1.toNatClampNeg)
                · rw [if_pos q4] at hq
                  exact absurd hq (one_p h0 (by omega))
                · rw [if_neg q4] at hq ⊢
                  obtain ⟨i1, i2, i3, i4⟩ := ih (at1 + zleF (b at1.toNatClampNeg)) (dp - ztaF (b at1.toNatClampNeg) + zpuF (b at1.toNatClampNeg)) (upd d0 at1.toNatClampNeg dp) (by omega) (by omega) hq (by omega)
                  have hc := clN (i := at1 + zleF (b at1.toNatClampNeg)) (by omega)
                  have hN : (at1 + zleF (b at1.toNatClampNeg)).toNatClampNeg = at1.toNatClampNeg + (zleF (b at1.toNatClampNeg)).toInt.toNat := by omega
                  have hd : (vcL b bc n (at1 + zleF (b at1.toNatClampNeg)) (dp - ztaF (b at1.toNatClampNeg) + zpuF (b at1.toNatClampNeg)) (upd d0 at1.toNatClampNeg dp)).2 at1.toNatClampNeg = dp := (i3 _ (by omega)).trans pk_us
                  refine ⟨h2, hd, fun j hj => (i3 j (by omega)).trans (pk_un (by omega)), fun j hj => ?_⟩
                  by_cases ej : j = at1.toNatClampNeg
                  · subst ej
                    exact Or.inr ⟨z, by omega, hreg, by rw [hd]; exact q, Or.inr ⟨e, by rw [← hN, i2, hd], by omega⟩⟩
                  · by_cases ej2 : j < (at1 + zleF (b at1.toNatClampNeg)).toNatClampNeg
                    · exact Or.inl ((i3 j ej2).trans (pk_un ej))
                    · rcases i4 j (by omega) with q9 | q9
                      · exact Or.inl (q9.trans (pk_un ej))
                      · exact Or.inr q9
          by_cases q3 : (3 : Int32) ≤ b at1.toNatClampNeg
          · rw [if_pos q3] at hr ⊢
            exact T (fun x => absurd q3 x) hr
          · rw [if_neg q3] at hr ⊢
            by_cases g : b (at1 + 1).toNatClampNeg ≤ 3
            · rw [if_pos g] at hr ⊢
              exact T (fun _ => by rw [← cl1 h0 (by omega)]; exact g) hr
            · rw [if_neg g] at hr
              exact absurd hr (one_p h0 (by omega))
        · rw [if_neg w] at hr
          exact absurd hr (one_p h0 (by omega))
theorem vb_0s {b d : Fn} {bc : Int32} (hb : bc.toInt ≤ 300) (hV : VD b bc d) (hY : okY b) : ∀ (n : Nat) (i : Int32), 0 ≤ i.toInt → i.toInt ≤ 300 → vbL b bc d n i = 0 → i.toInt + (n : Int) = 301 → ∀ j : Nat, i.toInt ≤ (j : Int) → (j : Int) < bc.toInt → ¬ d j < 0 → b j = 9 → d j = 1 ∧ (256 * b (j + 1) + b (j + 2)).toInt < bc.toInt ∧ d (256 * b (j + 1) + b (j + 2)).toNatClampNeg = 0 := by
  intro n
  induction n with
  | zero => intro i _ h9 _ hn; exact absurd hn (by omega)
  | succ n ih =>
    intro i h0 h9 hr hn j hj1 hj2 hd h9b
    have c1 : ¬ bc ≤ i := by rw [Int32.le_iff_toInt_le]; omega
    have h2 := i_lt c1
    have ha := clN h0
    have e1 : (i + 1).toInt = i.toInt + 1 := i32_1 (by omega)
    rw [vbR h0 c1 hb hV hY] at hr
    by_cases ej : (j : Int) = i.toInt
    · have ejn : j = i.toNatClampNeg := by omega
      subst ejn
      rw [if_neg hd, if_pos h9b] at hr
      have l := vd_len9 hV h0 hd h9b
      by_cases d1 : d i.toNatClampNeg = 1
      · rw [if_pos d1] at hr
        have n1 : (i + 1).toNatClampNeg = i.toNatClampNeg + 1 := cl1 h0 (by omega)
        have n2 : (i + 2).toNatClampNeg = i.toNatClampNeg + 2 := by
          have e2 : (i + 2).toInt = i.toInt + 2 := by rw [i32_add (by rw [show (2 : Int32).toInt = 2 by decide]; omega) (by rw [show (2 : Int32).toInt = 2 by decide]; omega)]; rfl
          have := clN (i := i + 2) (by omega)
          omega
        rw [n1, n2] at hr
        by_cases g1 : bc ≤ 256 * b (i.toNatClampNeg + 1) + b (i.toNatClampNeg + 2)
        · rw [if_pos g1] at hr
          exact absurd hr (one_p h0 (by omega))
        · rw [if_neg g1] at hr
          by_cases g0 : d (256 * b (i.toNatClampNeg + 1) + b (i.toNatClampNeg + 2)).toNatClampNeg = 0
          · exact ⟨d1, i_lt g1, g0⟩
          · rw [if_neg g0] at hr
            exact absurd hr (one_p h0 (by omega))
      · rw [if_neg d1] at hr
        exact absurd hr (one_p h0 (by omega))
    · have R : vbL b bc d n (i + 1) = 0 := by
        by_cases q : d i.toNatClampNeg < 0
        · rw [if_pos q] at hr; exact hr
        · rw [if_neg q] at hr
          by_cases c9 : b i.toNatClampNeg = 9
          · rw [if_pos c9] at hr
            by_cases d1 : d i.toNatClampNeg = 1
            · rw [if_pos d1] at hr
              by_cases g1 : bc ≤ 256 * b (i + 1).toNatClampNeg + b (i + 2).toNatClampNeg
              · rw [if_pos g1] at hr
                exact absurd hr (one_p h0 (by omega))
              · rw [if_neg g1] at hr
                by_cases g0 : d (256 * b (i + 1).toNatClampNeg + b (i + 2).toNatClampNeg).toNatClampNeg = 0
                · rw [if_pos g0] at hr; exact hr
                · rw [if_neg g0] at hr
                  exact absurd hr (one_p h0 (by omega))
            · rw [if_neg d1] at hr
              exact absurd hr (one_p h0 (by omega))
          · rw [if_neg c9] at hr; exact hr
      exact ih (i + 1) (by omega) (by omega) R (by omega) j (by omega) hj2 hd h9b
/-- bytes that are right: at each code the depth, the next one, a branch's goal -/
def RB (b : Fn) (bc : Int32) (d : Fn) : Prop := 0 < bc.toInt ∧ bc.toInt ≤ 300 ∧ d 0 = 0 ∧ VD b bc d ∧ (∀ j : Nat, d j = -1 ∨ RBa b bc d j) ∧ ∀ j : Nat, (j : Int) < bc.toInt → ¬ d j < 0 → b j = 9 → d j = 1 ∧ (256 * b (j + 1) + b (j + 2)).toInt < bc.toInt ∧ d (256 * b (j + 1) + b (j + 2)).toNatClampNeg = 0
theorem vd_RB {b : Fn} {bc : Int32} (hb0 : 0 ≤ bc.toInt) (hb : bc.toInt ≤ 300) (hY : okY b) (h : vdF b bc = 0) : RB b bc (vcF b bc).2 := by
  unfold vdF at h
  by_cases q : (vcF b bc).1 = 0
  · rw [if_pos q] at h
    obtain ⟨a1, a2, -, a4⟩ := vc_CH hb hb0 hY 305 0 0 (fun _ => -1) (by decide) (by decide) q (by decide)
    refine ⟨by rw [Int32.toInt_zero] at a1; exact a1, hb, a2, vcF_VD hb hY, fun j => a4 j (Nat.zero_le _), fun j hj hd h9 => ?_⟩
    exact vb_0s hb (vcF_VD hb hY) hY 301 0 (by decide) (by decide) h (by decide) j (by rw [Int32.toInt_zero]; omega) hj hd h9
  · rw [if_neg q] at h
    exact absurd h q
