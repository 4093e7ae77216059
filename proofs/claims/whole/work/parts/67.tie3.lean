/-! the other calls on both sides -/
theorem t_bat {nb : Nat} {ad : Nat → AD} {mn oo oa ob ss gg zz md : Fn} {bl : Int32} (hI : IV nb mn oo oa ob ss gg zz md) (hnb : nb ≤ 24) (hbl : bl = nI nb) {bi i r rz th : Int32} {v : Int64} (hO : batO bi i nb (bkZ ad mn oo oa ob ss gg zz md) r v) (hZ : (rz, th) = zbatF bi i bl ss zz md) : th = r ∧ (r = 0 → v = rz.toInt64) := by
  unfold zbatF at hZ
  rw [hbl] at hZ
  rcases hO with ⟨h1, h2⟩ | ⟨h1, hO⟩
  · rw [if_pos ((wiB hnb).mpr h1)] at hZ
    cases hZ; subst h2; exact ⟨rfl, fun h => absurd h (by decide)⟩
  rw [if_neg (fun q => (wiB hnb).mp q h1)] at hZ
  have hk := in24 hnb h1
  have hz := hI.2.1 _ (kc hk)
  rcases hO with ⟨h2, h3⟩ | ⟨h2, hO⟩
  · have h2 : ss bi.toNatClampNeg = 0 := h2
    rw [if_pos h2] at hZ
    cases hZ; subst h3; exact ⟨rfl, fun h => absurd h (by decide)⟩
  have h2 : ¬ ss bi.toNatClampNeg = 0 := h2
  rw [if_neg h2] at hZ
  have hbc : bcB (bkZ ad mn oo oa ob ss gg zz md) bi.toNatClampNeg = zz bi.toNatClampNeg := if_neg h2
  rw [hbc] at hO
  rcases hO with ⟨h3, h4⟩ | ⟨h3, h4, h5⟩
  · rw [if_pos ((has_wi hz).mp h3)] at hZ
    cases hZ; subst h4; exact ⟨rfl, fun h => absurd h (by decide)⟩
  · rw [if_neg (fun q => h3 ((has_wi hz).mpr q))] at hZ
    have hn : ¬ (i.toInt < 0 ∨ (zz bi.toNatClampNeg).toInt ≤ i.toInt ∨ 300 ≤ i.toInt) := fun q => h3 (hasF0.mpr q)
    rw [vw300 (f := md) (i := i) hk ⟨by omega, by omega⟩] at hZ
    cases hZ; subst h4
    refine ⟨rfl, fun _ => ?_⟩
    rw [h5]
    unfold rdF
    rw [if_neg h3]
    rfl
theorem t_alt {nb : Nat} {ad : Nat → AD} {mn oo oa ob ss gg zz md : Fn} {bl : Int32} (hI : IV nb mn oo oa ob ss gg zz md) (hnb : nb ≤ 24) (hbl : bl = nI nb) {bi i x r rz th : Int32} {v : Int64} {bk' : Nat → BK} {md' : Fn} (hO : altO bi i x nb (bkZ ad mn oo oa ob ss gg zz md) r v bk') (hZ : (rz, th, md') = zaltF bi i x bl ss zz md) :
    th = r ∧ (r = 0 → v = rz.toInt64) ∧ IV nb mn oo oa ob ss gg zz md' ∧ ∀ q, q < nb → BKe (bk' q) (bkZ ad mn oo oa ob ss gg zz md' q) := by
  unfold zaltF at hZ
  rw [hbl] at hZ
  rcases hO with ⟨h1, h2, h3⟩ | ⟨h1, hO⟩
  · rw [if_pos ((wiB hnb).mpr h1)] at hZ
    cases hZ; subst h2; subst h3; exact ⟨rfl, fun h => absurd h (by decide), hI, fun _ _ => BKe.rf _⟩
  rw [if_neg (fun q => (wiB hnb).mp q h1)] at hZ
  have hk := in24 hnb h1
  have hi := inB_lt h1 hnb
  have hz := hI.2.1 _ (kc hk)
  rcases hO with ⟨h2, h3, h4⟩ | ⟨h2, hO⟩
  · have h2 : ¬ ss bi.toNatClampNeg = 1 := h2
    rw [if_neg h2] at hZ
    cases hZ; subst h3; subst h4; exact ⟨rfl, fun h => absurd h (by decide), hI, fun _ _ => BKe.rf _⟩
  have h2 : ss bi.toNatClampNeg = 1 := h2
  rw [if_pos h2] at hZ
  have hbc : bcB (bkZ ad mn oo oa ob ss gg zz md) bi.toNatClampNeg = zz bi.toNatClampNeg := if_neg (by rw [h2]; decide)
  rw [hbc] at hO
  have e255 : (255 : Int32).toInt = 255 := by decide
  rcases hO with ⟨h3, h4, h5⟩ | ⟨⟨h3, h3a, h3b⟩, h4, h5, h6⟩
  · have hor : wiF i 0 (zz bi.toNatClampNeg - 1) = 0 ∨ wiF x 0 255 = 0 := by
      rcases h3 with q | q | q
      · exact Or.inl ((has_wi hz).mp q)
      · exact Or.inr (wiF0.mpr (Or.inl (lt32.mp q)))
      · exact Or.inr (wiF0.mpr (Or.inr (lt32.mp (Int32.not_le.mp q))))
    have hZ : (rz, th, md') = (0, 3, md) := by
      by_cases q : wiF i 0 (zz bi.toNatClampNeg - 1) = 0
      · rw [if_pos q] at hZ; exact hZ
      · rw [if_neg q, if_pos (hor.resolve_left q)] at hZ; exact hZ
    cases hZ; subst h4; subst h5; exact ⟨rfl, fun h => absurd h (by decide), hI, fun _ _ => BKe.rf _⟩
  · have hn : ¬ (i.toInt < 0 ∨ (zz bi.toNatClampNeg).toInt ≤ i.toInt ∨ 300 ≤ i.toInt) := fun q => h3 (hasF0.mpr q)
    have hx : ¬ wiF x 0 255 = 0 := fun q => by
      rcases wiF0.mp q with q | q
      · exact h3a (lt32.mpr q)
      · exact absurd h3b (Int32.not_le.mpr (lt32.mpr q))
    rw [if_neg (fun q => h3 ((has_wi hz).mpr q)), if_neg hx, cl300 hk ⟨by omega, by omega⟩] at hZ
    have em := clN (i := i) (by omega)
    have hov : ovF (byB (bkZ ad mn oo oa ob ss gg zz md) bi.toNatClampNeg) (zz bi.toNatClampNeg) i x = upd (vN 300 md bi.toNatClampNeg) i.toNatClampNeg x := by
      unfold ovF
      rw [if_neg h3]; rfl
    rw [hov] at h6
    have hv : v = (md (300 * bi.toNatClampNeg + i.toNatClampNeg)).toInt64 := by
      rw [h5]
      unfold rdF
      rw [if_neg h3]; rfl
    have hm3 : i.toNatClampNeg < 300 := by omega
    generalize i.toNatClampNeg = m at hZ h6 hv hm3
    cases hZ; subst h4; subst h6
    rw [lt32, Int32.toInt_zero] at h3a
    rw [le32, e255] at h3b
    obtain ⟨i1, i2, i3, i4, i5, i6, i7⟩ := hI
    refine ⟨rfl, fun _ => hv, ⟨i1, i2, fun j hj => ?_, i4, fun k hk9 e => ?_, i6, fun j hj hj2 => ?_⟩, fun q hq => ?_⟩
    · by_cases q : j = 300 * bi.toNatClampNeg + m
      · rw [q, pk_us]; omega
      · rw [pk_un q]; exact i3 j hj
    · by_cases q : k.toNatClampNeg = bi.toNatClampNeg
      · rw [q, h2] at e; exact absurd e (by decide)
      · have h9 := i5 k hk9 e
        rw [show vw 300 (upd md (300 * bi.toNatClampNeg + m) x) k = vN 300 (upd md (300 * bi.toNatClampNeg + m) x) k.toNatClampNeg from rfl, vdF_congr (b' := vN 300 md k.toNatClampNeg) (fun j hj => v300_ne q hm3 hj)]
        exact h9
    · obtain ⟨f1, f2, f3, f4⟩ := i7 j hj hj2
      have q : j ≠ bi.toNatClampNeg := by omega
      exact ⟨f1, f2, f3, fun a ha => (v300_ne (f := md) q hm3 ha).trans (f4 a ha)⟩
    · by_cases e9 : q = bi.toNatClampNeg
      · subst e9
        rw [upB_at]
        refine ⟨rfl, fun j _ => rfl, fun j _ => rfl, fun j _ => rfl, fun j _ => rfl, fun j _ => ?_, rfl⟩
        show upd (vN 300 md bi.toNatClampNeg) m x j = vN 300 (upd md (300 * bi.toNatClampNeg + m) x) bi.toNatClampNeg j
        rw [vN_upd]
      · rw [upB_ne e9]
        exact ⟨rfl, fun j _ => rfl, fun j _ => rfl, fun j _ => rfl, fun j _ => rfl, fun j hj => (v300_ne e9 hm3 hj).symm, rfl⟩
theorem t_chk {nb : Nat} {ad : Nat → AD} {mn oo oa ob ss gg zz md : Fn} {bl : Int32} (hnb : nb ≤ 24) (hbl : bl = nI nb) {bi r rz th : Int32} {v : Int64} (hO : chkO bi nb (bkZ ad mn oo oa ob ss gg zz md) r v) (hZ : (rz, th) = zchF bi bl ss zz md) : th = r ∧ (r = 0 → v = rz.toInt64) := by
  unfold zchF at hZ
  rw [hbl] at hZ
  rcases hO with ⟨h1, h2⟩ | ⟨h1, hO⟩
  · rw [if_pos ((wiB hnb).mpr h1)] at hZ
    cases hZ; subst h2; exact ⟨rfl, fun h => absurd h (by decide)⟩
  rw [if_neg (fun q => (wiB hnb).mp q h1)] at hZ
  rcases hO with ⟨h2, h3⟩ | ⟨h2, h3, h4⟩
  · have h2 : ss bi.toNatClampNeg = 0 := h2
    rw [if_pos h2] at hZ
    cases hZ; subst h3; exact ⟨rfl, fun h => absurd h (by decide)⟩
  · have h2 : ¬ ss bi.toNatClampNeg = 0 := h2
    have hbc : bcB (bkZ ad mn oo oa ob ss gg zz md) bi.toNatClampNeg = zz bi.toNatClampNeg := if_neg h2
    rw [hbc] at h4
    rw [if_neg h2] at hZ
    cases hZ; subst h3; exact ⟨rfl, fun _ => h4⟩
theorem t_wha {nb : Nat} {ad : Nat → AD} {mn oo oa ob ss gg zz md : Fn} {bl : Int32} (hnb : nb ≤ 24) (hbl : bl = nI nb) {bi x r rz th : Int32} {v : Int64} (hO : whaO bi x nb (bkZ ad mn oo oa ob ss gg zz md) r v) (hZ : (rz, th) = zwhaF bi x bl mn ss gg zz) : th = r ∧ (r = 0 → v = rz.toInt64) := by
  unfold zwhaF at hZ
  rw [hbl] at hZ
  rcases hO with ⟨h1, h2⟩ | ⟨h1, hO⟩
  · rw [if_pos ((wiB hnb).mpr h1)] at hZ
    cases hZ; subst h2; exact ⟨rfl, fun h => absurd h (by decide)⟩
  rw [if_neg (fun q => (wiB hnb).mp q h1)] at hZ
  have w4 : whM x (saB (bkZ ad mn oo oa ob ss gg zz md) bi.toNatClampNeg) (gnB (bkZ ad mn oo oa ob ss gg zz md) bi.toNatClampNeg) (icB (bkZ ad mn oo oa ob ss gg zz md) bi.toNatClampNeg) (bcB (bkZ ad mn oo oa ob ss gg zz md) bi.toNatClampNeg) = if x = 0 then ss bi.toNatClampNeg else if x = 1 then (if ss bi.toNatClampNeg = 0 then -1 else gg bi.toNatClampNeg) else if x = 2 then mn bi.toNatClampNeg else (if ss bi.toNatClampNeg = 0 then 0 else zz bi.toNatClampNeg) := rfl
  rw [w4] at hO
  rcases hO with ⟨h2, h3⟩ | ⟨h2, h3, h4⟩
  · rw [if_neg (fun q => h2 (Or.inl q)), if_neg (fun q => h2 (Or.inr (Or.inl q))), if_neg (fun q => h2 (Or.inr (Or.inr (Or.inl q)))), if_neg (fun q => h2 (Or.inr (Or.inr (Or.inr q))))] at hZ
    cases hZ; subst h3; exact ⟨rfl, fun h => absurd h (by decide)⟩
  · subst h3; subst h4
    rcases h2 with rfl | rfl | rfl | rfl
    · rw [if_pos rfl] at hZ ⊢
      cases hZ; exact ⟨rfl, fun _ => rfl⟩
    · rw [if_neg (by decide), if_pos rfl] at hZ ⊢
      split at hZ
      · rename_i q; cases hZ; exact ⟨rfl, fun _ => by rw [if_pos q]⟩
      · rename_i q; cases hZ; exact ⟨rfl, fun _ => by rw [if_neg q]⟩
    · rw [if_neg (by decide), if_neg (by decide), if_pos rfl] at hZ ⊢
      cases hZ; exact ⟨rfl, fun _ => rfl⟩
    · rw [if_neg (by decide), if_neg (by decide), if_neg (by decide)] at hZ ⊢
      rw [if_pos rfl] at hZ
      split at hZ
      · rename_i q; cases hZ; exact ⟨rfl, fun _ => by rw [if_pos q]⟩
      · rename_i q; cases hZ; exact ⟨rfl, fun _ => by rw [if_neg q]⟩
theorem roF_eq {o f e : Fn} {ic : Int32} (h : ic.toInt ≤ 60) (x y : Int64) : roF o f e ic x y = roL o f e ic 2001 0 (begR x y) 0 := by
  unfold roF
  rw [show minF ic 60 = ic by unfold minF; rw [if_neg (by rw [lt32, show (60 : Int32).toInt = 60 by decide]; omega)]]
theorem byF_A (b : Fn) (bc : Int32) (x y : Int64) (pl : FL) : byF b bc x y pl = byAA b bc (begR x y) pl := rfl
theorem t_run {nb : Nat} {ad : Nat → AD} {mn oo oa ob ss gg zz md : Fn} {bl : Int32} (hI : IV nb mn oo oa ob ss gg zz md) (hnb : nb ≤ 24) (hbl : bl = nI nb) {bi r rz th ru al ke kb ru' al' ke' kb' rns' als' en' bb' : Int32} {x y v : Int64} {kp pp kp' g' : FL} (hO : runO bi x y nb (bkZ ad mn oo oa ob ss gg zz md) ru al kp ke kb r v rns' als' g' en' bb') (hZ : zrnP bi bl mn oo oa ob ss zz md x y pp kp ke kb ru al rz th kp' ke' kb' ru' al') :
    th = r ∧ (r = 0 → v = rz.toInt64) ∧ rns' = ru' ∧ als' = al' ∧ g' = kp' ∧ en' = ke' ∧ bb' = kb' := by
  unfold zrnP at hZ
  rw [hbl] at hZ
  rcases hO with ⟨h1, h2, h3, h4, h5, h6, h7⟩ | ⟨h1, h2, rr, sp', pl, hv, hn⟩
  · rcases hZ with ⟨-, a1, a2, a3, a4, a5, a6, a7⟩ | ⟨a1, -⟩
    · subst a1; subst a2; subst a3; subst a4; subst a5; subst a6; subst a7; subst h2; subst h3; subst h4; subst h5; subst h6; subst h7
      exact ⟨rfl, fun h => absurd h (by decide), rfl, rfl, rfl, rfl, rfl⟩
    · exact absurd ((wiB hnb).mpr h1) a1
  rcases hZ with ⟨a1, -⟩ | ⟨-, a2, a3, a4, hZ⟩
  · exact absurd h1 ((wiB hnb).mp a1)
  have hk := in24 hnb h1
  have hm := hI.1 _ (kc hk)
  subst h2
  obtain ⟨n1, n2, n3, n4, n5⟩ := hn
  subst n1; subst n2; subst n3; subst a2; subst a3; subst a4; subst hv
  rcases hZ with ⟨c1, b1, b2, b3, b4⟩ | ⟨c1, b1, b2⟩
  · have hbc : bcB (bkZ ad mn oo oa ob ss gg zz md) bi.toNatClampNeg = zz bi.toNatClampNeg := if_neg (by rw [c1]; decide)
    obtain ⟨d1, d2, d3, d4⟩ := n4 c1
    rw [hbc, byF_A] at d1 d2 d3
    have hag := byAA_ag (vN 300 md bi.toNatClampNeg) (zz bi.toNatClampNeg) (begR x y) pl pp
    have e1 : g' = kp' := d1.trans (hag.1.trans b2.symm)
    have e2 : rr = rz := d2.trans ((congrArg Prod.fst hag.2).trans b3.symm)
    have e3 : en' = ke' := d3.trans ((congrArg Prod.snd hag.2).trans b4.symm)
    subst e1; subst e2; subst e3; subst b1; subst d4
    exact ⟨rfl, fun _ => rfl, rfl, rfl, rfl, rfl, rfl⟩
  · obtain ⟨d1, d2⟩ := n5 c1
    rw [roF_eq (show (icB (bkZ ad mn oo oa ob ss gg zz md) bi.toNatClampNeg).toInt ≤ 60 from hm.2)] at d1
    have e := d1.trans b2.symm
    cases e
    subst b1; subst d2
    exact ⟨rfl, fun _ => rfl, rfl, rfl, rfl, rfl, rfl⟩
theorem t_reg {i r th : Int32} {v rz : Int64} {kp : FL} (hO : regO i kp r v) (hZ : (rz, th) = (if wiF i 0 3 = 0 then (0, 1) else (kp i.toNatClampNeg, 0))) : th = r ∧ (r = 0 → v = rz) := by
  rcases hO with ⟨h1, h2⟩ | ⟨h1, h2, h3⟩
  · rw [if_pos ((isReg_wi i).mp h1)] at hZ
    cases hZ; subst h2; exact ⟨rfl, fun h => absurd h (by decide)⟩
  · rw [if_neg (fun q => h1 ((isReg_wi i).mpr q))] at hZ
    cases hZ; subst h2; subst h3
    refine ⟨rfl, fun _ => ?_⟩
    unfold ldF
    rw [if_neg h1]
theorem t_end {x ke kb r rz th : Int32} {v : Int64} (hO : endO x ke kb r v) (hZ : (rz, th) = (if x = 0 then (ke, 0) else if x = 1 then (if kb = 0 then (0, 0) else (1, 0)) else (0, 1))) : th = r ∧ (r = 0 → v = rz.toInt64) := by
  rcases hO with ⟨h1, h2⟩ | ⟨h1, h2, h3⟩
  · rw [if_neg (fun q => h1 (Or.inl q)), if_neg (fun q => h1 (Or.inr q))] at hZ
    cases hZ; subst h2; exact ⟨rfl, fun h => absurd h (by decide)⟩
  · subst h2; subst h3
    unfold edM
    rcases h1 with rfl | rfl
    · rw [if_pos rfl] at hZ ⊢
      cases hZ; exact ⟨rfl, fun _ => rfl⟩
    · rw [if_neg (by decide)] at hZ ⊢
      rw [if_pos rfl] at hZ
      split at hZ
      · rename_i q; cases hZ; exact ⟨rfl, fun _ => by rw [if_pos q]⟩
      · rename_i q; cases hZ; exact ⟨rfl, fun _ => by rw [if_neg q]⟩
theorem zs_did (g g2 : FL) (sp sp2 en en2 : Int32) : zsA g g2 (if sp2 = sp then (if en2 = en then 1 else 0) else 0) = didL g g2 sp sp2 en en2 5 0 := by
  have c0 : ¬ (4 : Int32) ≤ 0 := by decide
  have c1 : ¬ (4 : Int32) ≤ 0 + 1 := by decide
  have c2 : ¬ (4 : Int32) ≤ 0 + 1 + 1 := by decide
  have c3 : ¬ (4 : Int32) ≤ 0 + 1 + 1 + 1 := by decide
  have c4 : (4 : Int32) ≤ 0 + 1 + 1 + 1 + 1 := by decide
  unfold zsA
  simp only [zsL, didL, if_neg c0, if_neg c1, if_neg c2, if_neg c3, if_pos c4]
  have q1 : (sp = sp2) ↔ (sp2 = sp) := ⟨Eq.symm, Eq.symm⟩
  have q2 : (en = en2) ↔ (en2 = en) := ⟨Eq.symm, Eq.symm⟩
  simp only [q1, q2]
  generalize lg_cmp (g (0 : Int32).toNatClampNeg) (g2 (0 : Int32).toNatClampNeg) = y0
  generalize lg_cmp (g (0 + 1 : Int32).toNatClampNeg) (g2 (0 + 1 : Int32).toNatClampNeg) = y1
  generalize lg_cmp (g (0 + 1 + 1 : Int32).toNatClampNeg) (g2 (0 + 1 + 1 : Int32).toNatClampNeg) = y2
  generalize lg_cmp (g (0 + 1 + 1 + 1 : Int32).toNatClampNeg) (g2 (0 + 1 + 1 + 1 : Int32).toNatClampNeg) = y3
  have h10 : ¬ (1 : Int32) = 0 := by decide
  by_cases e1 : sp2 = sp <;> by_cases e2 : en2 = en <;> by_cases a0 : y0 = 0 <;> by_cases a1 : y1 = 0 <;> by_cases a2 : y2 = 0 <;> by_cases a3 : y3 = 0 <;> simp only [e1, e2, a0, a1, a2, a3, h10, if_true, if_false]
theorem t_sam {nb : Nat} {ad : Nat → AD} {mn oo oa ob ss gg zz md : Fn} {bl : Int32} (hI : IV nb mn oo oa ob ss gg zz md) (hnb : nb ≤ 24) (hbl : bl = nI nb) {bi r rz th : Int32} {x y v : Int64} {pp : FL} (hO : samO bi x y nb (bkZ ad mn oo oa ob ss gg zz md) r v) (hZ : zsmP bi bl mn oo oa ob ss zz md x y pp rz th) : th = r ∧ (r = 0 → v = if rz = 0 then 0 else 1) := by
  unfold zsmP at hZ
  rw [hbl] at hZ
  rcases hO with ⟨h1, h2⟩ | ⟨h1, hO⟩
  · rcases hZ with ⟨-, a1, a2⟩ | ⟨a1, -⟩
    · subst a2; subst h2; exact ⟨rfl, fun h => absurd h (by decide)⟩
    · exact absurd ((wiB hnb).mpr h1) a1
  rcases hZ with ⟨a1, -⟩ | ⟨-, hZ⟩
  · exact absurd h1 ((wiB hnb).mp a1)
  have hk := in24 hnb h1
  have hm := hI.1 _ (kc hk)
  by_cases c0 : ss bi.toNatClampNeg = 0
  · rcases hZ with ⟨-, a1, a2⟩ | ⟨a1, -⟩
    · rcases hO with ⟨-, b1⟩ | ⟨b1, -⟩
      · subst a2; subst b1; exact ⟨rfl, fun h => absurd h (by decide)⟩
      · exact absurd c0 b1
    · exact absurd c0 a1
  have hbc : bcB (bkZ ad mn oo oa ob ss gg zz md) bi.toNatClampNeg = zz bi.toNatClampNeg := if_neg c0
  rw [hbc] at hO
  have hby : byB (bkZ ad mn oo oa ob ss gg zz md) bi.toNatClampNeg = vw 300 md bi := rfl
  rw [hby] at hO
  rcases hZ with ⟨a0, a1, a2⟩ | ⟨-, a0, a1, a2⟩
  · rcases hO with ⟨-, b1⟩ | ⟨-, b1, -⟩
    · subst a2; subst b1; exact ⟨rfl, fun h => absurd h (by decide)⟩
    · exact absurd b1 (a0.resolve_left c0)
  · rcases hO with ⟨b0, -⟩ | ⟨-, -, b1, rr, pl, b2, b3⟩
    · exact absurd a0 (b0.resolve_left c0)
    · subst a1; subst b1
      refine ⟨rfl, fun _ => ?_⟩
      have e : rr = rz := by
        rw [b2, a2]
        unfold smM zsmF
        rw [zs_did, roF_eq (show (icB (bkZ ad mn oo oa ob ss gg zz md) bi.toNatClampNeg).toInt ≤ 60 from hm.2), byF_A]
        have hag := byAA_ag (vw 300 md bi) (zz bi.toNatClampNeg) (begR x y) pl pp
        rw [hag.1, hag.2]
        rfl
      rw [b3, e]
