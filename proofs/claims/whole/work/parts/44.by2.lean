/-! the codes one by one, in the reference's words -/
theorem m1e (x : Int32) : x + (-1) = x - 1 := by rw [Int32.sub_eq_add_neg]
section BY2
variable {b d : Fn} {bc kk at1 hg sp : Int32} {n : Nat} {g p : FL} {RES : FL × Pi × Int32 × Int32}
/-- what is known where a code is to be done -/
theorem byI.k (hR : RB b bc d) (h : byI b bc d (n + 1) kk at1 g p hg sp RES) : RBa b bc d at1.toNatClampNeg ∧ 0 ≤ hg.toInt ∧ hg.toInt ≤ 4 ∧ hg = d at1.toNatClampNeg ∧ 0 ≤ at1.toInt ∧ at1.toInt < bc.toInt ∧ bc.toInt ≤ 300 ∧ ¬ d at1.toNatClampNeg < 0 := by
  obtain ⟨h0, h1, h2, h3, -⟩ := h
  obtain ⟨r, q1, q2⟩ := hR.code h0 h2
  rw [h3]
  exact ⟨r, q1, q2, rfl, h0, h1, hR.2.1, h2⟩
theorem op_b (hY : okY b) (h0 : 0 ≤ at1.toInt) (h1 : at1.toInt + 1 < bc.toInt) (hb : bc.toInt ≤ 300) : rdF b bc (at1 + 1) = b (at1 + 1).toNatClampNeg ∧ (0 ≤ (b (at1 + 1).toNatClampNeg).toInt ∧ (b (at1 + 1).toNatClampNeg).toInt ≤ 255) ∧ (at1 + 1).toNatClampNeg = at1.toNatClampNeg + 1 ∧ (at1 + 1).toInt = at1.toInt + 1 := by
  have e : (at1 + 1).toInt = at1.toInt + 1 := i32_1 (by omega)
  have q := clN (i := at1 + 1) (by omega)
  exact ⟨rdF1 (by omega) (by omega) hb, hY _ (by omega), cl1 h0 (by omega), e⟩
theorem op_r (hY : okY b) (hR : RB b bc d) (h : byI b bc d (n + 1) kk at1 g p hg sp RES) (c : b at1.toNatClampNeg = 1 ∨ b at1.toNatClampNeg = 2) : at1.toInt + 1 < bc.toInt ∧ rdF b bc (at1 + 1) = b (at1 + 1).toNatClampNeg ∧ (0 ≤ (b (at1 + 1).toNatClampNeg).toInt ∧ (b (at1 + 1).toNatClampNeg).toInt ≤ 3) := by
  obtain ⟨⟨r1, r2, r3, r4, r5⟩, q1, q2, q3, h0, h1, hb, hd⟩ := h.k hR
  have ha := clN h0
  have hl : (zleF (b at1.toNatClampNeg)).toInt = 2 := by rcases c with c | c <;> rw [c] <;> decide
  have h2 : at1.toInt + 1 < bc.toInt := by
    rcases r5 with r5 | ⟨-, -, r7⟩
    · rcases c with c | c <;> (rw [c] at r5; exact absurd r5 (by decide))
    · omega
  obtain ⟨e1, e2, e3, e4⟩ := op_b hY h0 h2 hb
  refine ⟨h2, e1, e2.1, ?_⟩
  have := r3 (by rcases c with c | c <;> rw [c] <;> decide)
  rw [← e3, Int32.le_iff_toInt_le, show (3 : Int32).toInt = 3 by decide] at this
  exact this
theorem puF1 {v : Int64} (h4 : hg.toInt + 1 ≤ 4) : puF v (p, hg) = (vp_updL p hg.toNatClampNeg v, hg + 1) := by
  simp only [puF, if_neg (show ¬ (4 : Int32) ≤ hg by rw [Int32.le_iff_toInt_le, show (4 : Int32).toInt = 4 by decide]; omega)]
theorem poV1 (h : 1 ≤ hg.toInt) : poV (p, hg) = p (hg + (-1)).toNatClampNeg ∧ poF (p, hg) = (p, hg + (-1)) := by
  have c : (1 : Int32) ≤ hg := by rw [Int32.le_iff_toInt_le, show (1 : Int32).toInt = 1 by decide]; exact h
  rw [m1e]
  exact ⟨by simp only [poV, if_pos c], by simp only [poF, poH, if_pos c]⟩
/-- one more on the pile -/
theorem byC_u (hR : RB b bc d) (h : byI b bc d (n + 1) kk at1 g p hg sp RES) (cs : sp.toInt < 2000) (c : b at1.toNatClampNeg = 1 ∨ b at1.toNatClampNeg = 3 ∨ b at1.toNatClampNeg = 16) {v : Int64}
    (hf : foF b bc at1 (b at1.toNatClampNeg) g (p, hg) sp = (at1 + lenOf (b at1.toNatClampNeg), g, puF v (p, hg), sp)) : byI b bc d n (kk + 1) (at1 + zleF (b at1.toNatClampNeg)) g (vp_updL p hg.toNatClampNeg v) (hg + 1) sp RES := by
  obtain ⟨⟨r1, r2, r3, r4, r5⟩, q1, q2, q3, h0, h1, hb, hd⟩ := h.k hR
  have n10 : ¬ b at1.toNatClampNeg = 10 := by rcases c with c | c | c <;> rw [c] <;> decide
  have n7 : ¬ b at1.toNatClampNeg = 7 := by rcases c with c | c | c <;> rw [c] <;> decide
  obtain ⟨a0, a1, a2, a3, a4, a5⟩ := hR.next h0 h1 hd n10
  have e : d at1.toNatClampNeg - ztaF (b at1.toNatClampNeg) + zpuF (b at1.toNatClampNeg) = hg + 1 := by
    rw [q3, show ztaF (b at1.toNatClampNeg) = 0 by rcases c with c | c | c <;> rw [c] <;> rfl, show zpuF (b at1.toNatClampNeg) = 1 by rcases c with c | c | c <;> rw [c] <;> rfl, Int32.sub_zero]
  have e4 : hg.toInt + 1 ≤ 4 := by
    rw [a3, e, i32_1 (by omega)] at a5
    exact a5
  refine byI_n hR h n10 cs (fun z => absurd z n7) (by rw [hf, puF1 e4, (zco_f r1).1]) a0 a1 a4 (by rw [a3, e]) (Or.inl ⟨rfl, a2⟩)
theorem byC_1 (hY : okY b) (hR : RB b bc d) (h : byI b bc d (n + 1) kk at1 g p hg sp RES) (cs : sp.toInt < 2000) (c : b at1.toNatClampNeg = 1) : byI b bc d n (kk + 1) (at1 + zleF (b at1.toNatClampNeg)) g (vp_updL p hg.toNatClampNeg (g (b (at1 + 1).toNatClampNeg).toNatClampNeg)) (hg + 1) sp RES := by
  obtain ⟨o1, o2, o3⟩ := op_r hY hR h (Or.inl c)
  refine byC_u hR h cs (Or.inl c) ?_
  rw [c]
  unfold foF
  rw [if_pos rfl, o2, ldF1 o3]
/-- what a push puts, as the reference has it -/
def zpsF (x0 x1 x2 x3 x4 : Int32) : Int32 := if x0 = 16 then (x1 ^^^ 128) - 128 else x1 <<< ((24 : Int32) &&& 31) ||| x2 <<< ((16 : Int32) &&& 31) ||| x3 <<< ((8 : Int32) &&& 31) ||| x4
theorem byC_16 (hY : okY b) (hR : RB b bc d) (h : byI b bc d (n + 1) kk at1 g p hg sp RES) (cs : sp.toInt < 2000) (c : b at1.toNatClampNeg = 16) {x2 x3 x4 : Int32} : byI b bc d n (kk + 1) (at1 + zleF (b at1.toNatClampNeg)) g (vp_updL p hg.toNatClampNeg (zpsF (b at1.toNatClampNeg) (b (at1 + 1).toNatClampNeg) x2 x3 x4).toInt64) (hg + 1) sp RES := by
  obtain ⟨⟨r1, r2, r3, r4, r5⟩, q1, q2, q3, h0, h1, hb, hd⟩ := h.k hR
  have ha := clN h0
  rw [show (zleF (b at1.toNatClampNeg)).toInt = 2 by rw [c]; decide] at r2
  obtain ⟨e1, e2, e3, e4⟩ := op_b (bc := bc) hY h0 (by omega) hb
  refine byC_u hR h cs (Or.inr (Or.inr c)) ?_
  unfold zpsF
  rw [if_pos c, sx8' e2, c]
  unfold foF
  rw [if_neg (by decide), if_neg (by decide), if_neg (by decide), if_neg (by decide), if_pos rfl, e1]
theorem byC_3 (hY : okY b) (hR : RB b bc d) (h : byI b bc d (n + 1) kk at1 g p hg sp RES) (cs : sp.toInt < 2000) (c : b at1.toNatClampNeg = 3) : byI b bc d n (kk + 1) (at1 + zleF (b at1.toNatClampNeg)) g (vp_updL p hg.toNatClampNeg (zpsF (b at1.toNatClampNeg) (b (at1 + 1).toNatClampNeg) (b (at1 + 2).toNatClampNeg) (b (at1 + 3).toNatClampNeg) (b (at1 + 4).toNatClampNeg)).toInt64) (hg + 1) sp RES := by
  obtain ⟨⟨r1, r2, r3, r4, r5⟩, q1, q2, q3, h0, h1, hb, hd⟩ := h.k hR
  have ha := clN h0
  rw [show (zleF (b at1.toNatClampNeg)).toInt = 5 by rw [c]; decide] at r2
  have p1 : (at1 + 1).toInt = at1.toInt + 1 := i32_1 (by omega)
  have p2 : (at1 + 2).toInt = at1.toInt + 2 := by rw [i32_add (by rw [show (2 : Int32).toInt = 2 by decide]; omega) (by rw [show (2 : Int32).toInt = 2 by decide]; omega)]; rfl
  have p3 : (at1 + 3).toInt = at1.toInt + 3 := by rw [i32_add (by rw [show (3 : Int32).toInt = 3 by decide]; omega) (by rw [show (3 : Int32).toInt = 3 by decide]; omega)]; rfl
  have p4 : (at1 + 4).toInt = at1.toInt + 4 := by rw [i32_add (by rw [show (4 : Int32).toInt = 4 by decide]; omega) (by rw [show (4 : Int32).toInt = 4 by decide]; omega)]; rfl
  have s2 : at1 + 1 + 1 = at1 + 2 := i32_ext (by rw [i32_1 (by omega), p1, p2]; omega)
  have s3 : at1 + 1 + 2 = at1 + 3 := i32_ext (by rw [i32_add (by rw [show (2 : Int32).toInt = 2 by decide]; omega) (by rw [show (2 : Int32).toInt = 2 by decide]; omega), p1, p3, show (2 : Int32).toInt = 2 by decide]; omega)
  have s4 : at1 + 1 + 2 + 1 = at1 + 4 := i32_ext (by rw [s3, i32_1 (by omega), p3, p4]; omega)
  have y : ∀ x : Int32, 0 ≤ x.toInt → x.toInt < bc.toInt → 0 ≤ (b x.toNatClampNeg).toInt ∧ (b x.toNatClampNeg).toInt ≤ 255 := fun x h1 h2 => hY _ (by have := clN h1; omega)
  refine byC_u hR h cs (Or.inr (Or.inl c)) ?_
  unfold zpsF
  rw [if_neg (show ¬ b at1.toNatClampNeg = 16 by rw [c]; decide), ← by4 (y _ (by omega) (by omega)) (y _ (by omega) (by omega)) (y _ (by omega) (by omega)) (y _ (by omega) (by omega)), c]
  unfold foF rd4F rd2F
  rw [if_neg (by decide), if_neg (by decide), if_pos rfl, s2, s4, s3, rdF1 (by omega) (by omega) hb, rdF1 (by omega) (by omega) hb, rdF1 (by omega) (by omega) hb, rdF1 (by omega) (by omega) hb]
theorem byC_2 (hY : okY b) (hR : RB b bc d) (h : byI b bc d (n + 1) kk at1 g p hg sp RES) (cs : sp.toInt < 2000) (c : b at1.toNatClampNeg = 2) : byI b bc d n (kk + 1) (at1 + zleF (b at1.toNatClampNeg)) (vp_updL g (b (at1 + 1).toNatClampNeg).toNatClampNeg (p (hg + (-1)).toNatClampNeg)) p (hg + (-1)) (sp + 1) RES := by
  obtain ⟨o1, o2, o3⟩ := op_r hY hR h (Or.inr c)
  obtain ⟨⟨r1, r2, r3, r4, r5⟩, q1, q2, q3, h0, h1, hb, hd⟩ := h.k hR
  have hs := h.2.2.2.2.1
  have n10 : ¬ b at1.toNatClampNeg = 10 := by rw [c]; decide
  have n7 : ¬ b at1.toNatClampNeg = 7 := by rw [c]; decide
  obtain ⟨a0, a1, a2, a3, a4, a5⟩ := hR.next h0 h1 hd n10
  rw [show ztaF (b at1.toNatClampNeg) = 1 by rw [c]; rfl, ← q3, Int32.lt_iff_toInt_lt, show (1 : Int32).toInt = 1 by decide] at r4
  obtain ⟨v1, v2⟩ := poV1 (p := p) (hg := hg) (by omega)
  refine byI_n hR h n10 cs (fun z => absurd z n7) ?_ a0 a1 a4 ?_ (Or.inr (i32_1 (by omega)))
  · rw [← (zco_f r1).1, c]
    unfold foF
    rw [if_neg (by decide), if_pos rfl, o2, stF1 o3, v1, v2]
  · rw [a3, q3, show ztaF (b at1.toNatClampNeg) = 1 by rw [c]; rfl, show zpuF (b at1.toNatClampNeg) = 0 by rw [c]; rfl, Int32.add_zero, m1e]
theorem byC_9f (hR : RB b bc d) (h : byI b bc d (n + 1) kk at1 g p hg sp RES) (cs : sp.toInt < 2000) (c : b at1.toNatClampNeg = 9) (cz : lg_cmp (p (hg + (-1)).toNatClampNeg) 0 = 0) : byI b bc d n (kk + 1) (at1 + zleF (b at1.toNatClampNeg)) g p (hg + (-1)) (sp + 1) RES := by
  obtain ⟨⟨r1, r2, r3, r4, r5⟩, q1, q2, q3, h0, h1, hb, hd⟩ := h.k hR
  have n10 : ¬ b at1.toNatClampNeg = 10 := by rw [c]; decide
  have n7 : ¬ b at1.toNatClampNeg = 7 := by rw [c]; decide
  obtain ⟨a0, a1, a2, a3, a4, a5⟩ := hR.next h0 h1 hd n10
  rw [show ztaF (b at1.toNatClampNeg) = 1 by rw [c]; rfl, ← q3, Int32.lt_iff_toInt_lt, show (1 : Int32).toInt = 1 by decide] at r4
  obtain ⟨v1, v2⟩ := poV1 (p := p) (hg := hg) (by omega)
  refine byI_n hR h n10 cs (fun z => absurd z n7) ?_ a0 a1 a4 ?_ (Or.inr (i32_1 (by omega)))
  · rw [← (zco_f r1).1, c]
    unfold foF
    rw [if_neg (by decide), if_neg (by decide), if_neg (by decide), if_pos rfl, v1, v2, if_pos cz]
  · rw [a3, q3, show ztaF (b at1.toNatClampNeg) = 1 by rw [c]; rfl, show zpuF (b at1.toNatClampNeg) = 0 by rw [c]; rfl, Int32.add_zero, m1e]
theorem byC_9t (hY : okY b) (hR : RB b bc d) (h : byI b bc d (n + 1) kk at1 g p hg sp RES) (cs : sp.toInt < 2000) (c : b at1.toNatClampNeg = 9) (cz : ¬ lg_cmp (p (hg + (-1)).toNatClampNeg) 0 = 0) : byI b bc d n (kk + 1) (256 * b (at1 + 1).toNatClampNeg + b (at1 + 2).toNatClampNeg) g p (hg + (-1)) (sp + 1) RES ∧ at1.toInt + 2 < bc.toInt := by
  obtain ⟨⟨r1, r2, r3, r4, r5⟩, q1, q2, q3, h0, h1, hb, hd⟩ := h.k hR
  have ha := clN h0
  have n10 : ¬ b at1.toNatClampNeg = 10 := by rw [c]; decide
  have n7 : ¬ b at1.toNatClampNeg = 7 := by rw [c]; decide
  rw [show (zleF (b at1.toNatClampNeg)).toInt = 3 by rw [c]; decide] at r2
  have p1 : (at1 + 1).toInt = at1.toInt + 1 := i32_1 (by omega)
  have p2 : (at1 + 2).toInt = at1.toInt + 2 := by rw [i32_add (by rw [show (2 : Int32).toInt = 2 by decide]; omega) (by rw [show (2 : Int32).toInt = 2 by decide]; omega)]; rfl
  have s2 : at1 + 1 + 1 = at1 + 2 := i32_ext (by rw [i32_1 (by omega), p1, p2]; omega)
  have n1 : (at1 + 1).toNatClampNeg = at1.toNatClampNeg + 1 := cl1 h0 (by omega)
  have n2 : (at1 + 2).toNatClampNeg = at1.toNatClampNeg + 2 := by have := clN (i := at1 + 2) (by omega); omega
  obtain ⟨b1, b2, b3⟩ := hR.2.2.2.2.2 at1.toNatClampNeg (by omega) hd c
  have y1 := hY (at1.toNatClampNeg + 1) (by omega)
  have y2 := hY (at1.toNatClampNeg + 2) (by omega)
  rw [n1, n2]
  rw [b1] at q3
  obtain ⟨v1, v2⟩ := poV1 (p := p) (hg := hg) (by rw [q3]; decide)
  refine ⟨byI_n hR h n10 cs (fun z => absurd z n7) ?_ (to_rng y1 y2) b2 (by rw [b3]; decide) (by rw [b3, q3]; rfl) (Or.inr (i32_1 (by omega))), by omega⟩
  rw [c]
  unfold foF rd2F
  rw [if_neg (by decide), if_neg (by decide), if_neg (by decide), if_pos rfl, v1, v2, if_neg cz, s2, rdF1 (by omega) (by omega) hb, rdF1 (by omega) (by omega) hb, n1, n2, shl_or y1 y2]
theorem zre4 {c : Int32} {x y : Int64} (h : c = 4 ∨ c = 5 ∨ c = 6 ∨ c = 7 ∨ c = 8) (hz : c = 7 → ¬ y = 0) : zreF (c - 3) x y = workedF (c - 3) x y := by
  rcases h with rfl | rfl | rfl | rfl | rfl
  · rfl
  · rfl
  · rfl
  · unfold zreF workedF
    rw [show (7 : Int32) - 3 = 4 from rfl, if_neg (by decide), if_neg (by decide), if_neg (by decide), if_pos rfl, if_neg (by decide), if_neg (by decide), if_neg (by decide), if_pos rfl, if_neg (fun q => hz rfl ((lg_cmp_eq _ _).mp q))]
  · rfl
theorem byC_a (hR : RB b bc d) (h : byI b bc d (n + 1) kk at1 g p hg sp RES) (cs : sp.toInt < 2000) (c : b at1.toNatClampNeg = 4 ∨ b at1.toNatClampNeg = 5 ∨ b at1.toNatClampNeg = 6 ∨ b at1.toNatClampNeg = 7 ∨ b at1.toNatClampNeg = 8) (hz : b at1.toNatClampNeg = 7 → ¬ lg_cmp (p (hg - 1).toNatClampNeg) 0 = 0) :
    byI b bc d n (kk + 1) (at1 + zleF (b at1.toNatClampNeg)) g (vp_updL p (hg + (-1) - 1).toNatClampNeg (zreF (b at1.toNatClampNeg - 3) (p (hg + (-1) - 1).toNatClampNeg) (p (hg + (-1)).toNatClampNeg))) (hg + (-1)) sp RES ∧ 2 ≤ hg.toInt ∧ hg.toInt ≤ 4 := by
  obtain ⟨⟨r1, r2, r3, r4, r5⟩, q1, q2, q3, h0, h1, hb, hd⟩ := h.k hR
  have n10 : ¬ b at1.toNatClampNeg = 10 := by rcases c with c | c | c | c | c <;> rw [c] <;> decide
  have nn : ¬ b at1.toNatClampNeg = 1 ∧ ¬ b at1.toNatClampNeg = 2 ∧ ¬ b at1.toNatClampNeg = 3 ∧ ¬ b at1.toNatClampNeg = 9 ∧ ¬ b at1.toNatClampNeg = 16 := by rcases c with c | c | c | c | c <;> rw [c] <;> decide
  have et : ztaF (b at1.toNatClampNeg) = 2 := by rcases c with c | c | c | c | c <;> rw [c] <;> rfl
  have ep : zpuF (b at1.toNatClampNeg) = 1 := by rcases c with c | c | c | c | c <;> rw [c] <;> rfl
  obtain ⟨a0, a1, a2, a3, a4, a5⟩ := hR.next h0 h1 hd n10
  rw [et, ← q3, Int32.lt_iff_toInt_lt, show (2 : Int32).toInt = 2 by decide] at r4
  have f1 : (hg - 1).toInt = hg.toInt - 1 := i32_m (by omega)
  have f2 : (hg - 1 - 1).toInt = hg.toInt - 2 := by rw [i32_m (by omega), f1]; omega
  obtain ⟨v1, v2⟩ := poV1 (p := p) (hg := hg) (by omega)
  rw [m1e] at v1 v2 ⊢
  obtain ⟨w1, w2⟩ := poV1 (p := p) (hg := hg - 1) (by omega)
  rw [m1e] at w1 w2
  have f3 : hg - 1 - 1 + 1 = hg - 1 := i32_ext (by rw [i32_1 (by omega), f1, f2]; omega)
  refine ⟨byI_n hR h n10 cs (fun z => ?_) ?_ a0 a1 a4 ?_ (Or.inl ⟨rfl, a2⟩), by omega, q2⟩
  · unfold tzF
    rw [if_neg (show ¬ (p, hg).2 ≤ 0 by show ¬ hg ≤ 0; rw [Int32.le_iff_toInt_le, Int32.toInt_zero]; omega)]
    exact if_neg (hz z)
  · rw [zre4 c (fun z y => hz z ((lg_cmp_eq _ _).mpr y)), ← (zco_f r1).1]
    unfold foF
    rw [if_neg nn.1, if_neg nn.2.1, if_neg nn.2.2.1, if_neg nn.2.2.2.1, if_neg nn.2.2.2.2]
    unfold woF
    rw [v1, v2, w1, w2, puF1 (by omega), f3]
  · rw [a3, et, ep, ← q3]
    exact i32_ext (by
      have e1 : (hg - 2).toInt = hg.toInt - 2 := by rw [Int32.toInt_sub, show (2 : Int32).toInt = 2 by decide]; exact Int.bmod_eq_of_le (by omega) (by omega)
      rw [i32_1 (by omega), e1, f1]; omega)
end BY2
