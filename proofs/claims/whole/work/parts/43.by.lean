/-! a run by bytes, code by code, where the bytes are right -/
theorem sx8 : ∀ a : Fin 256, ((nI a.val ^^^ 128) - 128) = (nI a.val).toInt8.toInt32 := by decide +kernel
theorem sx8' {x : Int32} (h : 0 ≤ x.toInt ∧ x.toInt ≤ 255) : (x ^^^ 128) - 128 = x.toInt8.toInt32 := by
  obtain ⟨a, ha, rfl⟩ := byN h
  exact sx8 ⟨a, ha⟩
theorem nIs (a : Nat) (s : Int32) (k : Nat) (hs : (s.toBitVec.smod 32).toNat = k) (hk : k ≤ 24) (h : a < 256) : nI a <<< s = nI (a * 2 ^ k) := pk_shlN s k hs (by
  have : 2 ^ k ≤ 2 ^ 24 := Nat.pow_le_pow_right (by omega) hk
  calc a * 2 ^ k ≤ 255 * 2 ^ 24 := Nat.mul_le_mul (by omega) this
    _ < 2 ^ 32 := by decide)
theorem by4 {x y z w : Int32} (hx : 0 ≤ x.toInt ∧ x.toInt ≤ 255) (hy : 0 ≤ y.toInt ∧ y.toInt ≤ 255) (hz : 0 ≤ z.toInt ∧ z.toInt ≤ 255) (hw : 0 ≤ w.toInt ∧ w.toInt ≤ 255) :
    (x <<< ((8 : Int32) &&& 31) ||| y) <<< ((16 : Int32) &&& 31) ||| (z <<< ((8 : Int32) &&& 31) ||| w) = x <<< ((24 : Int32) &&& 31) ||| y <<< ((16 : Int32) &&& 31) ||| z <<< ((8 : Int32) &&& 31) ||| w := by
  obtain ⟨a, ha, rfl⟩ := byN hx
  obtain ⟨b, hb, rfl⟩ := byN hy
  obtain ⟨c, hc, rfl⟩ := byN hz
  obtain ⟨d, hd, rfl⟩ := byN hw
  rw [nIs a ((8 : Int32) &&& 31) 8 (by decide) (by omega) ha, nIs c ((8 : Int32) &&& 31) 8 (by decide) (by omega) hc, nIs a ((24 : Int32) &&& 31) 24 (by decide) (by omega) ha, nIs b ((16 : Int32) &&& 31) 16 (by decide) (by omega) hb]
  rw [nI_or, nI_or, nI_or, nI_or, nI_or]
  have e1 : a * 2 ^ 8 ||| b = a * 2 ^ 8 + b := by
    have := Nat.two_pow_add_eq_or_of_lt (i := 8) (b := b) (by omega) a
    rw [Nat.mul_comm a (2 ^ 8), ← this]
  rw [pk_shlN (n := a * 2 ^ 8 ||| b) ((16 : Int32) &&& 31) 16 (by decide) (by rw [e1]; omega), nI_or]
  have e2 : (a * 2 ^ 8 ||| b) * 2 ^ 16 = a * 2 ^ 24 ||| b * 2 ^ 16 := by
    rw [← Nat.shiftLeft_eq (a * 2 ^ 8 ||| b) 16, Nat.shiftLeft_or_distrib, Nat.shiftLeft_eq, Nat.shiftLeft_eq, Nat.mul_assoc, ← Nat.pow_add]
  exact congrArg nI (by rw [e2, Nat.or_assoc, Nat.or_assoc, Nat.or_assoc])
def byI (b : Fn) (bc : Int32) (d : Fn) (n : Nat) (kk at1 : Int32) (g : FL) (p : FL) (hg sp : Int32) (RES : FL × Pi × Int32 × Int32) : Prop :=
  0 ≤ at1.toInt ∧ at1.toInt < bc.toInt ∧ ¬ d at1.toNatClampNeg < 0 ∧ hg = d at1.toNatClampNeg ∧ (0 ≤ sp.toInt ∧ sp.toInt ≤ 2000) ∧ 0 ≤ kk.toInt ∧ kk.toInt ≤ sp.toInt * 300 + at1.toInt ∧ kk.toInt + (n : Int) = 600301 ∧ byL b bc n kk at1 g (p, hg) sp = RES
section BY
variable {b d : Fn} {bc kk at1 hg sp : Int32} {n : Nat} {g p : FL} {RES : FL × Pi × Int32 × Int32}
theorem byI_e (hR : RB b bc d) (h : byI b bc d (n + 1) kk at1 g p hg sp RES) (c : b at1.toNatClampNeg = 10) : (g, (p, hg), sp, 0) = RES := by
  obtain ⟨h0, h1, -, -, h5, h6, h7, h8, h9⟩ := h
  rw [← h9]
  simp only [byL, if_neg (show ¬ (600300 : Int32) ≤ kk by rw [Int32.le_iff_toInt_le, show (600300 : Int32).toInt = 600300 by decide]; have := hR.2.1; omega), rdF1 h0 h1 hR.2.1, if_pos c]
theorem byI_s (hR : RB b bc d) (h : byI b bc d (n + 1) kk at1 g p hg sp RES) (c : ¬ b at1.toNatClampNeg = 10) (cs : sp = 2000) : (g, (p, hg), sp, 2) = RES := by
  obtain ⟨h0, h1, -, -, h5, h6, h7, h8, h9⟩ := h
  rw [← h9]
  simp only [byL, if_neg (show ¬ (600300 : Int32) ≤ kk by rw [Int32.le_iff_toInt_le, show (600300 : Int32).toInt = 600300 by decide]; have := hR.2.1; omega), rdF1 h0 h1 hR.2.1, if_neg c, if_neg (show ¬ sp < 2000 by rw [cs]; decide)]
theorem byI_f (hR : RB b bc d) (h : byI b bc d (n + 1) kk at1 g p hg sp RES) (c : b at1.toNatClampNeg = 7) (cs : sp.toInt < 2000) (cz : ¬ tzF (p, hg) = 0) : (g, (p, hg), sp, 1) = RES := by
  obtain ⟨h0, h1, -, -, h5, h6, h7, h8, h9⟩ := h
  rw [← h9]
  simp only [byL, if_neg (show ¬ (600300 : Int32) ≤ kk by rw [Int32.le_iff_toInt_le, show (600300 : Int32).toInt = 600300 by decide]; have := hR.2.1; omega), rdF1 h0 h1 hR.2.1, if_neg (show ¬ b at1.toNatClampNeg = 10 by rw [c]; decide), if_pos (show sp < 2000 by rw [Int32.lt_iff_toInt_lt, show (2000 : Int32).toInt = 2000 by decide]; exact cs), if_pos c, if_neg cz]
theorem byI_n (hR : RB b bc d) (h : byI b bc d (n + 1) kk at1 g p hg sp RES) (c : ¬ b at1.toNatClampNeg = 10) (cs : sp.toInt < 2000) (c7 : b at1.toNatClampNeg = 7 → tzF (p, hg) = 0) {at' : Int32} {g' p' : FL} {hg' sp' : Int32}
    (hfo : foF b bc at1 (b at1.toNatClampNeg) g (p, hg) sp = (at', g', (p', hg'), sp')) (a0 : 0 ≤ at'.toInt) (a1 : at'.toInt < bc.toInt) (ad : ¬ d at'.toNatClampNeg < 0) (ah : hg' = d at'.toNatClampNeg) (ak : (sp' = sp ∧ at1.toInt < at'.toInt) ∨ sp'.toInt = sp.toInt + 1) : byI b bc d n (kk + 1) at' g' p' hg' sp' RES := by
  obtain ⟨h0, h1, -, -, h5, h6, h7, h8, h9⟩ := h
  have hb := hR.2.1
  have e1 : (kk + 1).toInt = kk.toInt + 1 := i32_1 (by omega)
  refine ⟨a0, a1, ad, ah, ?_, by omega, ?_, by omega, ?_⟩
  · rcases ak with ⟨q, -⟩ | q
    · rw [q]; exact h5
    · omega
  · rcases ak with ⟨q, q2⟩ | q
    · rw [q]; omega
    · rw [q]; omega
  · rw [← h9]
    by_cases q7 : b at1.toNatClampNeg = 7
    · simp only [byL, if_neg (show ¬ (600300 : Int32) ≤ kk by rw [Int32.le_iff_toInt_le, show (600300 : Int32).toInt = 600300 by decide]; omega), rdF1 h0 h1 hR.2.1, if_neg c, if_pos (show sp < 2000 by rw [Int32.lt_iff_toInt_lt, show (2000 : Int32).toInt = 2000 by decide]; exact cs), if_pos q7, if_pos (c7 q7), hfo]
    · simp only [byL, if_neg (show ¬ (600300 : Int32) ≤ kk by rw [Int32.le_iff_toInt_le, show (600300 : Int32).toInt = 600300 by decide]; omega), rdF1 h0 h1 hR.2.1, if_neg c, if_pos (show sp < 2000 by rw [Int32.lt_iff_toInt_lt, show (2000 : Int32).toInt = 2000 by decide]; exact cs), if_neg q7, hfo]
/-- the code at a place that is one, and the place behind it -/
theorem RB.code (hR : RB b bc d) (h0 : 0 ≤ at1.toInt) (hd : ¬ d at1.toNatClampNeg < 0) : RBa b bc d at1.toNatClampNeg ∧ 0 ≤ (d at1.toNatClampNeg).toInt ∧ (d at1.toNatClampNeg).toInt ≤ 4 := by
  constructor
  · rcases hR.2.2.2.2.1 at1.toNatClampNeg with q | q
    · rw [q] at hd; exact absurd (by decide) hd
    · exact q
  · rcases hR.2.2.2.1 at1.toNatClampNeg with q | q
    · rw [q] at hd; exact absurd (by decide) hd
    · exact ⟨q.1, q.2.1⟩
theorem RB.next (hR : RB b bc d) (h0 : 0 ≤ at1.toInt) (h1 : at1.toInt < bc.toInt) (hd : ¬ d at1.toNatClampNeg < 0) (c : ¬ b at1.toNatClampNeg = 10) : 0 ≤ (at1 + zleF (b at1.toNatClampNeg)).toInt ∧ (at1 + zleF (b at1.toNatClampNeg)).toInt < bc.toInt ∧ at1.toInt < (at1 + zleF (b at1.toNatClampNeg)).toInt ∧ d (at1 + zleF (b at1.toNatClampNeg)).toNatClampNeg = d at1.toNatClampNeg - ztaF (b at1.toNatClampNeg) + zpuF (b at1.toNatClampNeg) ∧ ¬ d (at1 + zleF (b at1.toNatClampNeg)).toNatClampNeg < 0 ∧ (d (at1 + zleF (b at1.toNatClampNeg)).toNatClampNeg).toInt ≤ 4 := by
  obtain ⟨⟨r1, r2, r3, r4, r5⟩, q1, q2⟩ := hR.code h0 hd
  have hb := hR.2.1
  obtain ⟨l1, l2, l3⟩ := le_n (c := b at1.toNatClampNeg) h0 h1 hb r1
  rcases r5 with r5 | ⟨-, r6, r7⟩
  · exact absurd r5 c
  · have ha := clN h0
    have hc := clN (i := at1 + zleF (b at1.toNatClampNeg)) (by omega)
    have hN : (at1 + zleF (b at1.toNatClampNeg)).toNatClampNeg = at1.toNatClampNeg + (zleF (b at1.toNatClampNeg)).toInt.toNat := by omega
    rw [hN, r6]
    have t := ta_rng (b at1.toNatClampNeg)
    rw [Int32.lt_iff_toInt_lt] at r4
    have e1 : (d at1.toNatClampNeg - ztaF (b at1.toNatClampNeg)).toInt = (d at1.toNatClampNeg).toInt - (ztaF (b at1.toNatClampNeg)).toInt := by rw [Int32.toInt_sub]; exact Int.bmod_eq_of_le (by omega) (by omega)
    have e2 : (d at1.toNatClampNeg - ztaF (b at1.toNatClampNeg) + zpuF (b at1.toNatClampNeg)).toInt = (d at1.toNatClampNeg).toInt - (ztaF (b at1.toNatClampNeg)).toInt + (zpuF (b at1.toNatClampNeg)).toInt := by rw [i32_add (by omega) (by omega), e1]
    refine ⟨by omega, by omega, by omega, rfl, nn_of (by omega), ?_⟩
    rcases hR.2.2.2.1 (at1.toNatClampNeg + (zleF (b at1.toNatClampNeg)).toInt.toNat) with q | q
    · rw [r6] at q
      rw [q] at e2
      rw [show (-1 : Int32).toInt = -1 by decide] at e2
      omega
    · rw [r6] at q; exact q.2.1
end BY
