/-! a call on both sides: answers alike, the class's blocks as the reference's rows have them -/
theorem vN_upd {n i a : Nat} {f : Fn} {v : Int32} : vN n (upd f (n * i + a) v) i = upd (vN n f i) a v := by
  funext j
  by_cases e : j = a
  · rw [e, pk_us]; exact pk_us
  · rw [pk_un e]; exact pk_un (by omega)
theorem v60_ne {i q a : Nat} {f : Fn} {v : Int32} (h : q ≠ i) (ha : a < 60) {j : Nat} (hj : j < 60) : vN 60 (upd f (60 * i + a) v) q j = vN 60 f q j := pk_un (by omega)
theorem v300_ne {i q a : Nat} {f : Fn} {v : Int32} (h : q ≠ i) (ha : a < 300) {j : Nat} (hj : j < 300) : vN 300 (upd f (300 * i + a) v) q j = vN 300 f q j := pk_un (by omega)
theorem stN_congr {o e o' e' : Fn} : ∀ {j : Nat}, (∀ a, a < j → o a = o' a ∧ e a = e' a) → stN o e j = stN o' e' j := by
  intro j
  induction j with
  | zero => intro _; rfl
  | succ j ih =>
    intro h
    unfold stN
    rw [ih (fun a ha => h a (by omega)), (h j (by omega)).1, (h j (by omega)).2]
theorem in24 {bi : Int32} {nb : Nat} (hnb : nb ≤ 24) (h : inB bi nb) : 0 ≤ bi.toInt ∧ bi.toInt < 24 ∧ True := by
  have := (inB_iff hnb).mp h
  exact ⟨this.1, by omega, trivial⟩
theorem t_block {nb : Nat} {ad : Nat → AD} {mn oo oa ob ss gg zz md : Fn} {bl : Int32} (hI : IV nb mn oo oa ob ss gg zz md) (hnb : nb ≤ 24) (hbl : bl = nI nb) {r rz th bl' : Int32} {v : Int64} {nb' : Nat} {bk' : Nat → BK} (hO : blO nb (bkZ ad mn oo oa ob ss gg zz md) r v nb' bk') (hZ : (rz, th, bl') = (if bl = 24 then (0, 1, bl) else (bl + 1 - 1, 0, bl + 1))) :
    th = r ∧ (r = 0 → v = rz.toInt64) ∧ bl' = nI nb' ∧ nb' ≤ 24 ∧ IV nb' mn oo oa ob ss gg zz md ∧ ∃ ad', ∀ i, i < nb' → BKe (bk' i) (bkZ ad' mn oo oa ob ss gg zz md i) := by
  rcases hO with ⟨h1, h2, h3, h4⟩ | ⟨h1, h2, h3, h4, a, h5⟩
  · have e : bl = 24 := by rw [hbl, h1]; rfl
    rw [if_pos e] at hZ
    cases hZ
    subst h2; subst h3; subst h4
    exact ⟨rfl, fun h => absurd h (by decide), hbl, hnb, hI, ad, fun i _ => BKe.rf _⟩
  · have e : ¬ bl = 24 := by
      rw [hbl]; intro h
      have := congrArg Int32.toInt h
      rw [nI_int (by omega), show (24 : Int32).toInt = 24 by decide] at this
      omega
    rw [if_neg e] at hZ
    cases hZ
    subst h2; subst h3; subst h4; subst h5
    obtain ⟨i1, i2, i3, i4, i5, i6, i7⟩ := hI
    refine ⟨rfl, fun _ => by rw [hbl], by rw [hbl, nI_succ], by omega, ⟨i1, i2, i3, i4, i5, i6, fun j hj => i7 j (by omega)⟩, fun j => if j = nb then a else ad j, fun i hi => ?_⟩
    by_cases e : i = nb
    · subst e
      rw [upB_at]
      obtain ⟨f1, f2, f3, f4⟩ := i7 i (Nat.le_refl i) h1
      refine ⟨(if_pos rfl).symm, fun j hj => (f3 j hj).1.symm, fun j hj => (f3 j hj).2.1.symm, fun j hj => (f3 j hj).2.2.symm, fun j hj => ?_, fun j hj => (f4 j hj).symm, ?_⟩
      · simp only [bkZ, nt, f1, Int32.toInt_zero]
        split
        · rename_i h9
          have : j = 0 := by omega
          rw [this]; rfl
        · rfl
      · simp only [bkZ, f1, f2, if_true]
    · rw [upB_ne e, show bkZ (fun j => if j = nb then a else ad j) mn oo oa ob ss gg zz md i = bkZ ad mn oo oa ob ss gg zz md i by simp only [bkZ, if_neg e]]
      exact BKe.rf _
theorem nt_at {o e : Fn} {ic : Int32} {j : Nat} (h : (j : Int) ≤ ic.toInt) : nt o e ic j = stN o e j := if_pos h
theorem nt_ab {o e : Fn} {ic : Int32} {j : Nat} (h : ¬ (j : Int) ≤ ic.toInt) : nt o e ic j = 0 := if_neg h
theorem okH_n {ss zz md : Fn} {i : Nat} {x : Int32} (hx : ¬ x = 2) (h : okH ss zz md) : okH (upd ss i x) zz md := fun k hk e => by
  by_cases q : k.toNatClampNeg = i
  · rw [q, pk_us] at e; exact absurd e hx
  · rw [pk_un q] at e; exact h k hk e
theorem ss_n {ss : Fn} {i : Nat} {x : Int32} (hx : x = 0 ∨ x = 1 ∨ x = 2) (h : ∀ j, j < 24 → ss j = 0 ∨ ss j = 1 ∨ ss j = 2) : ∀ j, j < 24 → upd ss i x j = 0 ∨ upd ss i x j = 1 ∨ upd ss i x j = 2 := fun j hj => by
  by_cases q : j = i
  · rw [q, pk_us]; exact hx
  · rw [pk_un q]; exact h j hj
set_option maxHeartbeats 1000000 in
theorem t_ins {nb : Nat} {ad : Nat → AD} {mn oo oa ob ss gg zz md : Fn} {bl : Int32} (hI : IV nb mn oo oa ob ss gg zz md) (hnb : nb ≤ 24) (hbl : bl = nI nb) {bi op ra x r rz th : Int32} {v : Int64} {bk' : Nat → BK} {mn' oo' oa' ob' ss' : Fn} (hO : insO bi op ra x nb (bkZ ad mn oo oa ob ss gg zz md) r v bk') (hZ : (rz, th, mn', oo', oa', ob', ss') = zinsF bi op ra x bl mn oo oa ob ss) :
    th = r ∧ (r = 0 → v = rz.toInt64) ∧ IV nb mn' oo' oa' ob' ss' gg zz md ∧ ∀ i, i < nb → BKe (bk' i) (bkZ ad mn' oo' oa' ob' ss' gg zz md i) := by
  unfold zinsF at hZ
  rw [hbl] at hZ
  rcases hO with ⟨h1, h2, h3⟩ | ⟨h1, hO⟩
  · rw [if_pos ((wiB hnb).mpr h1)] at hZ
    cases hZ; subst h2; subst h3
    exact ⟨rfl, fun h => absurd h (by decide), hI, fun i _ => BKe.rf _⟩
  rw [if_neg (fun q => (wiB hnb).mp q h1)] at hZ
  rcases hO with ⟨h2, h3, h4⟩ | ⟨h2, hO⟩
  · rw [if_pos ((zin_iff _ _ _).mpr h2)] at hZ
    cases hZ; subst h3; subst h4
    exact ⟨rfl, fun h => absurd h (by decide), hI, fun i _ => BKe.rf _⟩
  have hz : ¬ zinF op ra x = 0 := fun q => by
    rcases (zin_iff _ _ _).mp q with h | h | h | h
    · exact h2.1 h
    · exact h2.2.1 h
    · exact h2.2.2.1 h
    · exact h2.2.2.2 h
  rw [if_neg hz] at hZ
  have hk := in24 hnb h1
  have hi := inB_lt h1 hnb
  have hi24 : bi.toNatClampNeg < 24 := by omega
  obtain ⟨i1, i2, i3, i4, i5, i6, i7⟩ := hI
  have hm := i1 _ hi24
  have e60 : (60 : Int32).toInt = 60 := by decide
  have hic : icB (bkZ ad mn oo oa ob ss gg zz md) bi.toNatClampNeg = mn bi.toNatClampNeg := rfl
  rw [hic] at hO
  rcases hO with ⟨h3, h4, h5⟩ | ⟨h3, h4, h5, h6⟩
  · have e : mn bi.toNatClampNeg = 60 := ext32 (by rw [lt32, e60] at h3; rw [e60]; omega)
    rw [if_pos e] at hZ
    cases hZ; subst h4; subst h5
    exact ⟨rfl, fun h => absurd h (by decide), ⟨i1, i2, i3, i4, i5, i6, i7⟩, fun i _ => BKe.rf _⟩
  rw [lt32, e60] at h3
  have e : ¬ mn bi.toNatClampNeg = 60 := fun q => by rw [q, e60] at h3; omega
  rw [if_neg e, cl60 hk ⟨hm.1, h3⟩] at hZ
  subst h4; subst h5; subst h6
  have em := clN hm.1
  have e1 : (mn bi.toNatClampNeg + 1).toInt = (mn bi.toNatClampNeg).toInt + 1 := i32_1 (by omega)
  have ec : (mn bi.toNatClampNeg + 1).toNatClampNeg = (mn bi.toNatClampNeg).toNatClampNeg + 1 := cl1 hm.1 (by omega)
  generalize hmm : (mn bi.toNatClampNeg).toNatClampNeg = m at hZ em ec ⊢
  generalize bi.toNatClampNeg = i at *
  cases hZ
  have hm60 : m < 60 := by omega
  refine ⟨rfl, fun _ => rfl, ⟨?_, i2, i3, ?_, okH_n (by decide) i5, ss_n (Or.inl rfl) i6, ?_⟩, ?_⟩
  · intro j hj
    by_cases q : j = i
    · rw [q, pk_us]; omega
    · rw [pk_un q]; exact i1 j hj
  · intro k hk9 j hj
    show okI (vN 60 (upd oo (60 * i + m) op) k.toNatClampNeg j) (vN 60 (upd oa (60 * i + m) ra) k.toNatClampNeg j) (vN 60 (upd ob (60 * i + m) x) k.toNatClampNeg j)
    have h9 := i4 k hk9
    by_cases q : k.toNatClampNeg = i
    · rw [q] at h9 hj ⊢
      rw [pk_us] at hj
      rw [vN_upd, vN_upd, vN_upd]
      by_cases q2 : j = m
      · rw [q2, pk_us, pk_us, pk_us]; exact zin_ok hz
      · rw [pk_un q2, pk_un q2, pk_un q2]
        have := h9 j (by omega)
        rw [show vw 60 oo k = vN 60 oo k.toNatClampNeg from rfl, show vw 60 oa k = vN 60 oa k.toNatClampNeg from rfl, show vw 60 ob k = vN 60 ob k.toNatClampNeg from rfl, q] at this
        exact this
    · rw [pk_un q] at hj
      have hq := i1 _ (kc hk9)
      rw [v60_ne q hm60 (by omega), v60_ne q hm60 (by omega), v60_ne q hm60 (by omega)]
      exact h9 j hj
  · intro j hj hj2
    obtain ⟨f1, f2, f3, f4⟩ := i7 j hj hj2
    have q : j ≠ i := by omega
    refine ⟨by rw [pk_un q]; exact f1, by rw [pk_un q]; exact f2, fun a ha => ?_, f4⟩
    exact ⟨(v60_ne (f := oo) q hm60 ha).trans (f3 a ha).1, (v60_ne (f := oa) q hm60 ha).trans (f3 a ha).2.1, (v60_ne (f := ob) q hm60 ha).trans (f3 a ha).2.2⟩
  · intro q hq
    by_cases e9 : q = i
    · subst e9
      rw [upB_at]
      refine ⟨rfl, fun j _ => ?_, fun j _ => ?_, fun j _ => ?_, fun j hj => ?_, fun j _ => rfl, ?_⟩
      · show upd (vN 60 oo q) m op j = vN 60 (upd oo (60 * q + m) op) q j
        rw [vN_upd]
      · show upd (vN 60 oa q) m ra j = vN 60 (upd oa (60 * q + m) ra) q j
        rw [vN_upd]
      · show upd (vN 60 ob q) m x j = vN 60 (upd ob (60 * q + m) x) q j
        rw [vN_upd]
      · show upd (nt (vN 60 oo q) (vN 60 ob q) (mn q)) (mn q + 1).toNatClampNeg (nt (vN 60 oo q) (vN 60 ob q) (mn q) m + bytesF op x) j = nt (vN 60 (upd oo (60 * q + m) op) q) (vN 60 (upd ob (60 * q + m) x) q) (upd mn q (mn q + 1) q) j
        rw [pk_us, vN_upd, vN_upd, ec]
        have key : ∀ a, a ≤ m → stN (upd (vN 60 oo q) m op) (upd (vN 60 ob q) m x) a = stN (vN 60 oo q) (vN 60 ob q) a := fun a ha => stN_congr (fun c hc => ⟨pk_un (by omega), pk_un (by omega)⟩)
        by_cases q1 : j = m + 1
        · rw [q1, pk_us, nt_at (by omega), nt_at (by omega)]
          show _ = stN _ _ m + bytesF (upd (vN 60 oo q) m op m) (upd (vN 60 ob q) m x m)
          rw [pk_us, pk_us, key m (Nat.le_refl m)]
        · rw [pk_un q1]
          by_cases q2 : j ≤ m
          · rw [nt_at (by omega), nt_at (by omega), key j q2]
          · rw [nt_ab (by omega), nt_ab (by omega)]
      · show (mn q + 1, (0 : Int32), (0 : Int32), (-1 : Int32)) = (upd mn q (mn q + 1) q, (if upd ss q 0 q = 0 then 0 else zz q), upd ss q 0 q, (if upd ss q 0 q = 0 then -1 else gg q))
        rw [pk_us, pk_us, if_pos rfl, if_pos rfl]
    · rw [upB_ne e9]
      have hq1 := i1 q (by omega)
      refine ⟨rfl, fun j hj => (v60_ne e9 hm60 hj).symm, fun j hj => (v60_ne e9 hm60 hj).symm, fun j hj => (v60_ne e9 hm60 hj).symm, fun j hj => ?_, fun j _ => rfl, ?_⟩
      · show nt (vN 60 oo q) (vN 60 ob q) (mn q) j = nt (vN 60 (upd oo (60 * i + m) op) q) (vN 60 (upd ob (60 * i + m) x) q) (upd mn i (mn i + 1) q) j
        rw [pk_un e9]
        by_cases q2 : (j : Int) ≤ (mn q).toInt
        · rw [nt_at q2, nt_at q2]
          exact stN_congr (fun c hc => ⟨(v60_ne e9 hm60 (by omega)).symm, (v60_ne e9 hm60 (by omega)).symm⟩)
        · rw [nt_ab q2, nt_ab q2]
      · show (mn q, (if ss q = 0 then 0 else zz q), ss q, (if ss q = 0 then -1 else gg q)) = (upd mn i (mn i + 1) q, (if upd ss i 0 q = 0 then 0 else zz q), upd ss i 0 q, (if upd ss i 0 q = 0 then -1 else gg q))
        rw [pk_un e9, pk_un e9]
