/-! bits; make -/
theorem and_m (v m : Int32) (k : Nat) (hm : m.toBitVec.toNat = 2 ^ k - 1) (hk : k ≤ 8) : (v &&& m).toInt = ((v.toBitVec.toNat % 2 ^ k : Nat) : Int) := by
  have h1 : (v &&& m).toBitVec.toNat = v.toBitVec.toNat % 2 ^ k := by
    rw [Int32.toBitVec_and, BitVec.toNat_and, hm, Nat.and_two_pow_sub_one_eq_mod]
  have h2 : v.toBitVec.toNat % 2 ^ k < 2 ^ k := Nat.mod_lt _ (Nat.two_pow_pos k)
  have h3 : 2 ^ k ≤ 2 ^ 8 := Nat.pow_le_pow_right (by decide) hk
  show (v &&& m).toBitVec.toInt = _
  rw [BitVec.toInt_eq_toNat_of_lt, h1]
  rw [h1]; omega
theorem and255 (v : Int32) : 0 ≤ (v &&& 255).toInt ∧ (v &&& 255).toInt ≤ 255 := by
  have h := and_m v 255 8 (by decide) (by decide)
  have h2 : v.toBitVec.toNat % 2 ^ 8 < 2 ^ 8 := Nat.mod_lt _ (Nat.two_pow_pos 8)
  omega
/-- bytes written are bytes, and there are at most 300 -/
def okW (s : By) : Prop := okY s.1 ∧ 0 ≤ s.2.toInt ∧ s.2.toInt ≤ 300
theorem apF_ok {s : By} (v : Int32) (h : okW s) : okW (apF v s) := by
  unfold apF
  split
  · exact h
  · rename_i c
    have c3 := n300 c
    have h20 := h.2.1
    have e1 : (s.2 + 1).toInt = s.2.toInt + 1 := i32_1 (by omega)
    refine ⟨fun j hj => ?_, show 0 ≤ (s.2 + 1).toInt by omega, show (s.2 + 1).toInt ≤ 300 by omega⟩
    show 0 ≤ (upd s.1 s.2.toNatClampNeg (v &&& 255) j).toInt ∧ (upd s.1 s.2.toNatClampNeg (v &&& 255) j).toInt ≤ 255
    by_cases e : j = s.2.toNatClampNeg
    · rw [e, pk_us]; exact and255 v
    · rw [pk_un e]; exact h.1 j hj
theorem wrR_ok {s : By} (c r : Int32) (h : okW s) : okW (wrR c r s) := apF_ok _ (apF_ok _ h)
theorem wrP_ok {s : By} (n : Int32) (h : okW s) : okW (wrP n s) := by
  unfold wrP
  split
  · exact apF_ok _ (apF_ok _ (apF_ok _ (apF_ok _ (apF_ok _ h))))
  · exact apF_ok _ (apF_ok _ h)
theorem wrB_ok {s : By} (g : Int32) (h : okW s) : okW (wrB g s) := apF_ok _ (apF_ok _ (apF_ok _ h))
theorem wrI_ok {s : By} (t : Fn) (ic op a b : Int32) (h : okW s) : okW (wrI t ic op a b s) := by
  unfold wrI
  split
  · exact wrR_ok _ _ (wrP_ok _ h)
  split
  · exact wrB_ok _ (wrR_ok _ _ h)
  split
  · exact wrR_ok _ _ (wrR_ok _ _ h)
  · exact wrR_ok _ _ (apF_ok _ (wrR_ok _ _ (wrR_ok _ _ h)))
theorem wrL_ok (o f e t : Fn) (ic : Int32) : ∀ (n : Nat) (i : Int32) (s : By), okW s → okW (wrL o f e t ic n i s) := by
  intro n
  induction n with
  | zero => intro i s h; exact h
  | succ n ih =>
    intro i s h
    unfold wrL
    split
    · exact h
    split
    · exact h
    · exact ih _ _ (wrI_ok _ _ _ _ _ h)
theorem wrA_ok (o f e t : Fn) (ic : Int32) {b : Fn} (h : okY b) : okW (wrA o f e t ic b) := apF_ok _ (wrL_ok _ _ _ _ _ _ _ _ ⟨h, show 0 ≤ (0 : Int32).toInt by decide, show (0 : Int32).toInt ≤ 300 by decide⟩)
/-! starts are read up to the last instruction only -/
theorem minF_le (i ic : Int32) : (minF i ic).toInt ≤ ic.toInt := by
  unfold minF
  split
  · exact Int.le_refl _
  · rename_i h; rw [lt32] at h; omega
theorem stIx_r {ic : Int32} (h : 0 ≤ ic.toInt) (i : Int32) : 0 ≤ (stIx ic i).toInt ∧ (stIx ic i).toInt ≤ ic.toInt := by
  have h1 := minF_le i ic
  unfold stIx maxF
  split
  · rename_i c; rw [lt32, Int32.toInt_zero] at c; omega
  · rw [Int32.toInt_zero]; omega
theorem startF_nt {o e : Fn} {ic : Int32} (h : 0 ≤ ic.toInt) (i : Int32) : startF (nt o e ic) ic i = startF (stN o e) ic i := by
  have h1 := stIx_r h i
  have h2 := clN h1.1
  unfold startF
  rw [nt_at (by omega)]
theorem wrI_nt {o e : Fn} {ic : Int32} (h : 0 ≤ ic.toInt) (op a b : Int32) (s : By) : wrI (nt o e ic) ic op a b s = wrI (stN o e) ic op a b s := by
  unfold wrI
  rw [startF_nt h]
theorem wrL_nt {o f e : Fn} {ic : Int32} (h : 0 ≤ ic.toInt) : ∀ (n : Nat) (i : Int32) (s : By), wrL o f e (nt o e ic) ic n i s = wrL o f e (stN o e) ic n i s := by
  intro n
  induction n with
  | zero => intro i s; rfl
  | succ n ih =>
    intro i s
    unfold wrL
    rw [wrI_nt h, ih]
theorem wrA_nt {o f e b : Fn} {ic : Int32} (h : 0 ≤ ic.toInt) : wrA o f e (nt o e ic) ic b = wrA o f e (stN o e) ic b := by
  unfold wrA
  rw [wrL_nt h]
theorem canF_nt {o e : Fn} {ic : Int32} (h : 0 ≤ ic.toInt ∧ ic.toInt ≤ 60) : canF (nt o e ic) ic = 0 ↔ ¬ stN o e ic.toNatClampNeg + 1 ≤ 300 := by
  have e1 : minF ic ic = ic := by unfold minF; split <;> rfl
  have e2 : stIx ic ic = ic := by
    unfold stIx
    rw [e1]
    unfold maxF
    split
    · rfl
    · rename_i c; rw [lt32, Int32.toInt_zero] at c
      exact ext32 (by rw [Int32.toInt_zero]; omega)
  have e3 : startF (nt o e ic) ic ic = stN o e ic.toNatClampNeg := by
    have h2 := clN h.1
    unfold startF
    rw [e2, if_neg (by rw [le32, show (61 : Int32).toInt = 61 by decide]; omega), nt_at (by omega)]
  unfold canF
  rw [e3, show lenOf 10 = 1 from rfl]
  split
  · rename_i c; exact ⟨fun _ => Int32.not_le.mpr c, fun _ => rfl⟩
  · rename_i c; exact ⟨fun q => absurd q (by decide), fun q => absurd (Int32.not_le.mp q) c⟩
theorem MF_ne {bi : Int32} {md md' : Fn} (h : MF bi md md') {q : Nat} (hq : q ≠ bi.toNatClampNeg) {j : Nat} (hj : j < 300) : vN 300 md' q j = vN 300 md q j := h _ (by omega)
set_option maxHeartbeats 1000000 in
theorem t_make {nb : Nat} {ad : Nat → AD} {mn oo oa ob ss gg zz md : Fn} {bl nw : Int32} (hI : IV nb mn oo oa ob ss gg zz md) (hnb : nb ≤ 24) (hbl : bl = nI nb) {bi r rz th : Int32} {v : Int64} {bk' : Nat → BK} {ss' md' zz' gg' : Fn} (hO : mkO bi nw nb (bkZ ad mn oo oa ob ss gg zz md) r v bk') (hZ : zmkP bi bl nw mn oo oa ob ss gg zz md rz th ss' md' zz' gg') :
    th = r ∧ (r = 0 → v = rz.toInt64) ∧ IV nb mn oo oa ob ss' gg' zz' md' ∧ ∀ i, i < nb → BKe (bk' i) (bkZ ad mn oo oa ob ss' gg' zz' md' i) := by
  unfold zmkP at hZ
  rw [hbl] at hZ
  rcases hO with ⟨h1, h2, h3⟩ | ⟨h1, h2, rr, b', bc', sa', gn', hm9, hv, h3⟩
  · rcases hZ with ⟨-, a2, a3, a4, a5, a6, a7⟩ | ⟨a1, -⟩
    · subst a2; subst a3; subst a4; subst a5; subst a6; subst a7; subst h2; subst h3
      exact ⟨rfl, fun h => absurd h (by decide), hI, fun i _ => BKe.rf _⟩
    · exact absurd ((wiB hnb).mpr h1) a1
  rcases hZ with ⟨a1, -⟩ | ⟨-, a2, hZ⟩
  · exact absurd h1 ((wiB hnb).mp a1)
  have hk := in24 hnb h1
  have hi := inB_lt h1 hnb
  have hi24 : bi.toNatClampNeg < 24 := by omega
  obtain ⟨i1, i2, i3, i4, i5, i6, i7⟩ := hI
  have hm := i1 _ hi24
  have hm9 : (rr, b', bc', sa', gn') = mkM (vN 60 oo bi.toNatClampNeg) (vN 60 oa bi.toNatClampNeg) (vN 60 ob bi.toNatClampNeg) (nt (vN 60 oo bi.toNatClampNeg) (vN 60 ob bi.toNatClampNeg) (mn bi.toNatClampNeg)) (vN 300 md bi.toNatClampNeg) (mn bi.toNatClampNeg) nw := hm9
  have h3 : bk' = upB (bkZ ad mn oo oa ob ss gg zz md) bi.toNatClampNeg (ad bi.toNatClampNeg, (vN 60 oo bi.toNatClampNeg, vN 60 oa bi.toNatClampNeg, vN 60 ob bi.toNatClampNeg, nt (vN 60 oo bi.toNatClampNeg) (vN 60 ob bi.toNatClampNeg) (mn bi.toNatClampNeg), b'), (mn bi.toNatClampNeg, bc', sa', gn')) := h3
  unfold mkM at hm9
  subst h2; subst a2; subst hv
  rcases hZ with ⟨c1, b2, b3, b4, b5, b6⟩ | ⟨c1, b2, b3, b4, b5, b6⟩
  · have c1 : ¬ stN (vN 60 oo bi.toNatClampNeg) (vN 60 ob bi.toNatClampNeg) (mn bi.toNatClampNeg).toNatClampNeg + 1 ≤ 300 := c1
    rw [if_pos ((canF_nt hm).mpr c1)] at hm9
    cases hm9
    subst b2; subst b3; subst b4; subst b5; subst b6; subst h3
    refine ⟨rfl, fun _ => rfl, ⟨i1, i2, i3, i4, okH_n (by decide) i5, ss_n (Or.inl rfl) i6, fun j hj hj2 => ?_⟩, fun q hq => ?_⟩
    · obtain ⟨f1, f2, f3, f4⟩ := i7 j hj hj2
      exact ⟨f1, by rw [pk_un (by omega)]; exact f2, f3, f4⟩
    · by_cases e9 : q = bi.toNatClampNeg
      · subst e9
        rw [upB_at]
        refine ⟨rfl, fun j _ => rfl, fun j _ => rfl, fun j _ => rfl, fun j _ => rfl, fun j _ => rfl, ?_⟩
        simp only [bkZ, pk_us, if_true]
      · rw [upB_ne e9]
        refine ⟨rfl, fun j _ => rfl, fun j _ => rfl, fun j _ => rfl, fun j _ => rfl, fun j _ => rfl, ?_⟩
        simp only [bkZ, pk_un e9]
  · have c1 : stN (vN 60 oo bi.toNatClampNeg) (vN 60 ob bi.toNatClampNeg) (mn bi.toNatClampNeg).toNatClampNeg + 1 ≤ 300 := c1
    rw [if_neg (fun q => (canF_nt hm).mp q c1), wrA_nt hm.1] at hm9
    have b2 : (vN 300 md' bi.toNatClampNeg, rz) = wrA (vN 60 oo bi.toNatClampNeg) (vN 60 oa bi.toNatClampNeg) (vN 60 ob bi.toNatClampNeg) (stN (vN 60 oo bi.toNatClampNeg) (vN 60 ob bi.toNatClampNeg)) (mn bi.toNatClampNeg) (vN 300 md bi.toNatClampNeg) := b2
    have hok := wrA_ok (vN 60 oo bi.toNatClampNeg) (vN 60 oa bi.toNatClampNeg) (vN 60 ob bi.toNatClampNeg) (stN (vN 60 oo bi.toNatClampNeg) (vN 60 ob bi.toNatClampNeg)) (mn bi.toNatClampNeg) (b := vN 300 md bi.toNatClampNeg) (okY7.v i3 hk)
    rw [← b2] at hm9 hok
    cases hm9
    subst b4; subst b5; subst b6; subst h3
    refine ⟨rfl, fun _ => rfl, ⟨i1, fun j hj => ?_, fun j hj => ?_, i4, fun k hk9 e => ?_, fun j hj => ?_, fun j hj hj2 => ?_⟩, fun q hq => ?_⟩
    · by_cases q : j = bi.toNatClampNeg
      · rw [q, pk_us]; exact hok.2
      · rw [pk_un q]; exact i2 j hj
    · by_cases q : 300 * bi.toNatClampNeg ≤ j ∧ j < 300 * bi.toNatClampNeg + 300
      · have := hok.1 (j - 300 * bi.toNatClampNeg) (by omega)
        rw [show (vN 300 md' bi.toNatClampNeg, rz).1 (j - 300 * bi.toNatClampNeg) = md' (300 * bi.toNatClampNeg + (j - 300 * bi.toNatClampNeg)) from rfl, show 300 * bi.toNatClampNeg + (j - 300 * bi.toNatClampNeg) = j by omega] at this
        exact this
      · rw [b3 j (by omega)]; exact i3 j hj
    · by_cases q : k.toNatClampNeg = bi.toNatClampNeg
      · rw [q, pk_us] at e; exact absurd e (by decide)
      · rw [pk_un q, pk_un q] at e
        rw [pk_un q]
        have h9 := i5 k hk9 e
        rw [show vw 300 md' k = vN 300 md' k.toNatClampNeg from rfl, vdF_congr (b' := vN 300 md k.toNatClampNeg) (fun j hj => MF_ne b3 q hj)]
        exact h9
    · by_cases q : j = bi.toNatClampNeg
      · rw [q, pk_us]; exact Or.inr (Or.inl rfl)
      · rw [pk_un q, pk_un q]; exact i6 j hj
    · obtain ⟨f1, f2, f3, f4⟩ := i7 j hj hj2
      have q : j ≠ bi.toNatClampNeg := by omega
      exact ⟨f1, by rw [pk_un q, pk_un q]; exact f2, f3, fun i hi9 => (MF_ne b3 q hi9).trans (f4 i hi9)⟩
    · by_cases e9 : q = bi.toNatClampNeg
      · subst e9
        rw [upB_at]
        refine ⟨rfl, fun j _ => rfl, fun j _ => rfl, fun j _ => rfl, fun j _ => rfl, fun j _ => rfl, ?_⟩
        simp only [bkZ, pk_us]
        rfl
      · rw [upB_ne e9]
        refine ⟨rfl, fun j _ => rfl, fun j _ => rfl, fun j _ => rfl, fun j _ => rfl, fun j hj => (MF_ne b3 e9 hj).symm, ?_⟩
        simp only [bkZ, pk_un e9]
