/-! border, next, count; the limit of generations; the class's world at the rows as they are now -/
theorem bk_upd {ad : Nat → AD} {mn oo oa ob ss gg zz md : Fn} {i : Nat} {x : Int32} : upB (bkZ ad mn oo oa ob ss gg zz md) i ((bkZ ad mn oo oa ob ss gg zz md i).1, (bkZ ad mn oo oa ob ss gg zz md i).2.1, (mn i, (if x = 0 then 0 else zz i), x, (if x = 0 then -1 else gg i))) = bkZ ad mn oo oa ob (upd ss i x) gg zz md := by
  funext j
  by_cases e : j = i
  · subst e
    rw [upB_at]
    simp only [bkZ, pk_us]
  · rw [upB_ne e]
    simp only [bkZ, pk_un e]
def SP (nb : Nat) (ss zz md : Fn) : Prop := okH ss zz md ∧ (∀ j, j < 24 → ss j = 0 ∨ ss j = 1 ∨ ss j = 2) ∧ (∀ j, nb ≤ j → j < 24 → ss j = 0)
theorem SP.up {nb : Nat} {ss zz md : Fn} {i : Nat} {x : Int32} (h : SP nb ss zz md) (hi : i < nb) (hx : x = 0 ∨ x = 1 ∨ x = 2) (hH : x = 2 → vdF (vN 300 md i) (zz i) = 0) : SP nb (upd ss i x) zz md := by
  refine ⟨fun k hk e => ?_, ss_n hx h.2.1, fun j h1 h2 => by rw [pk_un (by omega)]; exact h.2.2 j h1 h2⟩
  by_cases q : k.toNatClampNeg = i
  · rw [q, pk_us] at e
    rw [show vw 300 md k = vN 300 md k.toNatClampNeg from rfl, q]; exact hH e
  · rw [pk_un q] at e; exact h.1 k hk e
theorem i_nb {i : Int32} {nb : Nat} (hnb : nb ≤ 24) (h0 : 0 ≤ i.toInt) (c : ¬ nI nb ≤ i) : i.toNatClampNeg < nb ∧ i.toInt < 24 := by
  have h1 := i_lt c
  rw [nI_int (by omega)] at h1
  have := clN h0
  omega
theorem bd_bo {ad : Nat → AD} {mn oo oa ob gg zz md : Fn} {nb : Nat} (hnb : nb ≤ 24) : ∀ (n : Nat) (i q w : Int32) (ss : Fn), 0 ≤ i.toInt → SP nb ss zz md →
    bdL (nI nb) n i q w (bkZ ad mn oo oa ob ss gg zz md) = ((boL zz md (nI nb) n i q w ss).1, (boL zz md (nI nb) n i q w ss).2.1, bkZ ad mn oo oa ob (boL zz md (nI nb) n i q w ss).2.2 gg zz md) ∧ SP nb (boL zz md (nI nb) n i q w ss).2.2 zz md := by
  intro n
  induction n with
  | zero => intro i q w ss h0 hs; exact ⟨rfl, hs⟩
  | succ n ih =>
    intro i q w ss h0 hs
    unfold bdL boL
    by_cases c : nI nb ≤ i
    · rw [if_pos c, if_pos c]; exact ⟨rfl, hs⟩
    rw [if_neg c, if_neg c]
    obtain ⟨hi, hi24⟩ := i_nb hnb h0 c
    have h1 : 0 ≤ (i + 1).toInt := by rw [i32_1 (by omega)]; omega
    rw [show saB (bkZ ad mn oo oa ob ss gg zz md) i.toNatClampNeg = ss i.toNatClampNeg from rfl]
    by_cases c1 : ss i.toNatClampNeg = 1
    · rw [if_pos c1, if_pos c1]
      have n0 : ¬ ss i.toNatClampNeg = 0 := by rw [c1]; decide
      rw [show bcB (bkZ ad mn oo oa ob ss gg zz md) i.toNatClampNeg = zz i.toNatClampNeg from if_neg n0, show byB (bkZ ad mn oo oa ob ss gg zz md) i.toNatClampNeg = vw 300 md i from rfl]
      by_cases c2 : vdF (vw 300 md i) (zz i.toNatClampNeg) = 0
      · rw [if_pos c2, if_pos c2]
        have e : upB (bkZ ad mn oo oa ob ss gg zz md) i.toNatClampNeg (stB (bkZ ad mn oo oa ob ss gg zz md i.toNatClampNeg) 2) = bkZ ad mn oo oa ob (upd ss i.toNatClampNeg 2) gg zz md := by
          rw [← bk_upd]
          simp only [stB, bkZ, if_neg n0, if_neg (show ¬ (2 : Int32) = 0 by decide)]
        rw [e, Int32.add_zero]
        exact ih _ _ _ _ h1 (hs.up hi (Or.inr (Or.inr rfl)) (fun _ => c2))
      · rw [if_neg c2, if_neg c2]
        have e : upB (bkZ ad mn oo oa ob ss gg zz md) i.toNatClampNeg (rowsB (bkZ ad mn oo oa ob ss gg zz md i.toNatClampNeg)) = bkZ ad mn oo oa ob (upd ss i.toNatClampNeg 0) gg zz md := by
          rw [← bk_upd]
          simp only [rowsB, bkZ, if_true]
        rw [e, Int32.add_zero]
        exact ih _ _ _ _ h1 (hs.up hi (Or.inl rfl) (fun h => absurd h (by decide)))
    · rw [if_neg c1, if_neg c1]
      exact ih _ _ _ _ h1 hs
theorem IV.sp {nb : Nat} {mn oo oa ob ss gg zz md : Fn} (h : IV nb mn oo oa ob ss gg zz md) : SP nb ss zz md := ⟨h.2.2.2.2.1, h.2.2.2.2.2.1, fun j h1 h2 => (h.2.2.2.2.2.2 j h1 h2).2.1⟩
theorem IV.of {nb : Nat} {mn oo oa ob ss ss' gg zz md : Fn} (h : IV nb mn oo oa ob ss gg zz md) (hs : SP nb ss' zz md) : IV nb mn oo oa ob ss' gg zz md := by
  obtain ⟨i1, i2, i3, i4, i5, i6, i7⟩ := h
  exact ⟨i1, i2, i3, i4, hs.1, hs.2.1, fun j h1 h2 => ⟨(i7 j h1 h2).1, hs.2.2 j h1 h2, (i7 j h1 h2).2.2.1, (i7 j h1 h2).2.2.2⟩⟩
theorem t_bor {nb : Nat} {ad : Nat → AD} {mn oo oa ob ss gg zz md : Fn} {bl : Int32} (hI : IV nb mn oo oa ob ss gg zz md) (hnb : nb ≤ 24) (hbl : bl = nI nb) {r rz wr wr' w' : Int32} {ss' : Fn} {bk' : Nat → BK} (hO : (r, w', bk') = bdL (nI nb) 25 0 0 wr (bkZ ad mn oo oa ob ss gg zz md)) (hZ : (rz, wr', ss') = boL zz md bl 25 0 0 wr ss) :
    r = rz ∧ w' = wr' ∧ bk' = bkZ ad mn oo oa ob ss' gg zz md ∧ IV nb mn oo oa ob ss' gg zz md := by
  obtain ⟨h1, h2⟩ := bd_bo (ad := ad) (mn := mn) (oo := oo) (oa := oa) (ob := ob) (gg := gg) hnb 25 0 0 wr ss (by decide) hI.sp
  rw [hbl] at hZ
  rw [h1, ← hZ] at hO
  rw [← hZ] at h2
  cases hO
  exact ⟨rfl, rfl, rfl, hI.of h2⟩
theorem max_ol (nw li : Int32) : maxF 0 (nw - li + 1) = olF nw li := by
  unfold maxF olF
  by_cases c : (0 : Int32) < nw - li + 1
  · rw [if_pos c, if_neg (Int32.not_le.mpr c)]
  · rw [if_neg c, if_pos (Int32.not_lt.mp c)]
theorem nb_nx {ad : Nat → AD} {mn oo oa ob gg zz md : Fn} {nb : Nat} (old : Int32) (hnb : nb ≤ 24) : ∀ (n : Nat) (i q : Int32) (ss : Fn), 0 ≤ i.toInt → SP nb ss zz md →
    nbL old (nI nb) n i q (bkZ ad mn oo oa ob ss gg zz md) = ((nxL gg old (nI nb) n i q ss).1, bkZ ad mn oo oa ob (nxL gg old (nI nb) n i q ss).2 gg zz md) ∧ SP nb (nxL gg old (nI nb) n i q ss).2 zz md := by
  intro n
  induction n with
  | zero => intro i q ss h0 hs; exact ⟨rfl, hs⟩
  | succ n ih =>
    intro i q ss h0 hs
    unfold nbL nxL
    by_cases c : nI nb ≤ i
    · rw [if_pos c, if_pos c]; exact ⟨rfl, hs⟩
    rw [if_neg c, if_neg c]
    obtain ⟨hi, hi24⟩ := i_nb hnb h0 c
    have h1 : 0 ≤ (i + 1).toInt := by rw [i32_1 (by omega)]; omega
    rw [show saB (bkZ ad mn oo oa ob ss gg zz md) i.toNatClampNeg = ss i.toNatClampNeg from rfl]
    by_cases c1 : ss i.toNatClampNeg = 0
    · rw [if_pos c1, if_pos (by rw [c1]; decide)]
      exact ih _ _ _ h1 hs
    have c2 : ¬ ss i.toNatClampNeg ≤ 0 := by
      rcases hs.2.1 i.toNatClampNeg (by omega) with h | h | h
      · exact absurd h c1
      · rw [h]; decide
      · rw [h]; decide
    rw [if_neg c1, if_neg c2, show gnB (bkZ ad mn oo oa ob ss gg zz md) i.toNatClampNeg = gg i.toNatClampNeg from if_neg c1]
    by_cases c3 : old ≤ gg i.toNatClampNeg
    · rw [if_pos c3, if_pos c3]
      exact ih _ _ _ h1 hs
    · rw [if_neg c3, if_neg c3]
      have e : upB (bkZ ad mn oo oa ob ss gg zz md) i.toNatClampNeg (rowsB (bkZ ad mn oo oa ob ss gg zz md i.toNatClampNeg)) = bkZ ad mn oo oa ob (upd ss i.toNatClampNeg 0) gg zz md := by
        rw [← bk_upd]
        simp only [rowsB, bkZ, if_true]
      rw [e]
      exact ih _ _ _ h1 (hs.up hi (Or.inl rfl) (fun h => absurd h (by decide)))
theorem t_nxt {nb : Nat} {ad : Nat → AD} {mn oo oa ob ss gg zz md : Fn} {bl nw li : Int32} (hI : IV nb mn oo oa ob ss gg zz md) (hnb : nb ≤ 24) (hbl : bl = nI nb) {r rz : Int32} {ss' : Fn} {bk' : Nat → BK} (hO : (r, bk') = nbL (maxF 0 (nw + 1 - li + 1)) (nI nb) 25 0 0 (bkZ ad mn oo oa ob ss gg zz md)) (hZ : (rz, ss') = nxL gg (olF (nw + 1) li) bl 25 0 0 ss) :
    r = rz ∧ bk' = bkZ ad mn oo oa ob ss' gg zz md ∧ IV nb mn oo oa ob ss' gg zz md := by
  rw [max_ol] at hO
  obtain ⟨h1, h2⟩ := nb_nx (ad := ad) (mn := mn) (oo := oo) (oa := oa) (ob := ob) (gg := gg) (olF (nw + 1) li) hnb 25 0 0 ss (by decide) hI.sp
  rw [hbl] at hZ
  rw [h1, ← hZ] at hO
  rw [← hZ] at h2
  cases hO
  exact ⟨rfl, rfl, hI.of h2⟩
theorem ct_bt (ss : Fn) (bl : Int32) : ∀ (n : Nat) (k h w : Int32), ctL ss bl n k h w = (btL ss bl 2 n k h, btL ss bl 1 n k w) := by
  intro n
  induction n with
  | zero => intro k h w; rfl
  | succ n ih =>
    intro k h w
    unfold ctL btL
    by_cases c : bl ≤ k
    · rw [if_pos c, if_pos c, if_pos c]
    · rw [if_neg c, if_neg c, if_neg c, ih]
      congr 2
      · split
        · rfl
        · exact Int32.add_zero _
      · split
        · rfl
        · exact Int32.add_zero _
theorem t_cnt {nb : Nat} {ad : Nat → AD} {mn oo oa ob ss gg zz md : Fn} {bl nw li wr ru al x : Int32} (hbl : bl = nI nb) : ctM x (nI nb) nw li wr ru al (saB (bkZ ad mn oo oa ob ss gg zz md)) = zcnF x bl nw li wr ru al ss := by
  unfold ctM zcnF ctF
  rw [ct_bt, max_ol, hbl]
  rfl
theorem nn_msb (v : BitVec 32) : 0 ≤ v.toInt ↔ v.msb = false := by
  rw [BitVec.toInt_eq_msb_cond]
  have := v.isLt
  split
  · rename_i h; rw [h]; constructor
    · intro q; omega
    · intro q; cases q
  · rename_i h
    exact ⟨fun _ => by simpa using h, fun _ => by omega⟩
theorem fm7 (x : Int32) : fmF x = x &&& 7 := by
  have e8 : (8 : Int32).toInt = 8 := by decide
  have hx1 := Int32.toInt_lt x
  have hx0 := Int32.le_toInt x
  have hs : (0 ≤ x ^^^ 8) ↔ 0 ≤ x.toInt := by
    rw [le32, Int32.toInt_zero]
    show 0 ≤ (x ^^^ 8).toBitVec.toInt ↔ 0 ≤ x.toBitVec.toInt
    rw [nn_msb, nn_msb, Int32.toBitVec_xor, BitVec.msb_xor]
    rw [show (8 : Int32).toBitVec.msb = false by decide, Bool.xor_false]
  have hr := and_m x 7 3 (by decide) (by decide)
  have hc : x.toInt = if 2 * x.toBitVec.toNat < 2 ^ 32 then (x.toBitVec.toNat : Int) else (x.toBitVec.toNat : Int) - ((2 ^ 32 : Nat) : Int) := BitVec.toInt_eq_toNat_cond x.toBitVec
  have hlt := x.toBitVec.isLt
  have key : ∀ d : Int, x.toInt.tdiv 8 = d → -268435456 ≤ d → d ≤ 268435455 → (x - x / 8 * 8).toInt = x.toInt - d * 8 ∨ ¬ (-8 < x.toInt - d * 8 ∧ x.toInt - d * 8 < 8) := by
    intro d hd h1 h2
    have a1 : (x / 8).toInt = d := by
      rw [Int32.toInt_div, e8, hd]
      exact Int.bmod_eq_of_le (by omega) (by omega)
    have a2 : (x / 8 * 8).toInt = d * 8 := by rw [i32_mul (by rw [a1, e8]; omega) (by rw [a1, e8]; omega), a1, e8]
    by_cases q : -8 < x.toInt - d * 8 ∧ x.toInt - d * 8 < 8
    · refine Or.inl ?_
      rw [Int32.toInt_sub, a2]
      exact Int.bmod_eq_of_le (by omega) (by omega)
    · exact Or.inr q
  apply ext32
  rw [hr]
  unfold fmF
  by_cases c : 0 ≤ x.toInt
  · rw [if_pos (hs.mpr c)]
    rcases key (x.toInt / 8) (Int.tdiv_eq_ediv_of_nonneg c) (by omega) (by omega) with h | h
    · rw [h]; split at hc <;> omega
    · exact absurd ⟨by omega, by omega⟩ h
  · rw [if_neg (fun q => c (hs.mp q))]
    have hd : x.toInt.tdiv 8 = -((-x.toInt) / 8) := by
      have := Int.neg_tdiv (-x.toInt) 8
      rw [Int.neg_neg] at this
      rw [this, Int.tdiv_eq_ediv_of_nonneg (by omega)]
    rcases key _ hd (by omega) (by omega) with h | h
    · split
      · rename_i q
        have q2 := congrArg Int32.toInt q
        rw [Int32.toInt_zero] at q2
        rw [q2]; rw [h] at q2; split at hc <;> omega
      · rename_i q
        have q2 : ¬ (x - x / 8 * 8).toInt = 0 := fun q3 => q (ext32 (by rw [Int32.toInt_zero]; exact q3))
        rw [i32_add (by rw [h, e8]; omega) (by rw [h, e8]; omega), e8, h]
        rw [h] at q2
        split at hc <;> omega
    · exact absurd ⟨by omega, by omega⟩ h
/-! rows that agree below their length: one world -/
theorem at_i {D : va_G} {cl : List vw_C} {a n : Nat} {c : ClassId} {f f' : Fn} {H : Heap} (h : ∀ j, j < n → f j = f' j) (h1 : va_at D cl (a, .inl (c, n, .inl f)) H) : va_at D cl (a, .inl (c, n, .inl f')) H := by
  have h2 : H[a]? = some (arrV c n (fun j => .int (f j))) := h1
  rw [arrV_eq (g := fun j => .int (f' j)) (fun j hj => by rw [h j hj])] at h2
  exact h2
theorem P_nil' {D : va_G} {cl : List vw_C} {H : Heap} : va_P D cl [] H := P_nil
theorem wBk_norm {D : va_G} {cI : ClassId} {z z' : BK} {H : Heap} (h : BKe z z') (hP : va_P D vwCl (wBk cI z) H) : va_P D vwCl (wBk cI z') H := by
  obtain ⟨⟨a0, a1, a2, a3, a4, a5⟩, ⟨o, f, e, t, b⟩, n⟩ := z
  obtain ⟨⟨c0, c1, c2, c3, c4, c5⟩, ⟨o', f', e', t', b'⟩, n'⟩ := z'
  obtain ⟨h1, h2, h3, h4, h5, h6, h7⟩ := h
  cases h1
  dsimp only at h2 h3 h4 h5 h6 h7
  subst h7
  rw [P_iff] at hP ⊢
  simp only [wBk, wB, List.mem_cons, List.not_mem_nil, or_false, forall_eq_or_imp, forall_eq] at hP ⊢
  obtain ⟨p0, p1, p2, p3, p4, p5⟩ := hP
  exact ⟨p0, at_i h2 p1, at_i h3 p2, at_i h4 p3, at_i h5 p4, at_i h6 p5⟩
theorem pool_norm {D : va_G} {cI : ClassId} {bk bk' : Nat → BK} {nb : Nat} {H : Heap} (h : ∀ i, i < nb → BKe (bk i) (bk' i)) (hP : va_P D vwCl (poolW cI bk nb) H) : va_P D vwCl (poolW cI bk' nb) H := by
  rw [P_iff] at hP ⊢
  intro q hq
  obtain ⟨j, hj, hq⟩ := List.mem_flatMap.mp hq
  have hj2 := List.mem_range.mp hj
  have h1 : va_P D vwCl (wBk cI (bk j)) H := P_iff.mpr (fun q2 h2 => hP q2 (List.mem_flatMap.mpr ⟨j, hj, h2⟩))
  exact P_iff.mp (wBk_norm (h j hj2) h1) q hq
theorem wBk_ad {cI : ClassId} {z z' : BK} (h : z.1 = z'.1) : (wBk cI z).map (fun q => q.1) = (wBk cI z').map (fun q => q.1) := by
  simp only [wBk, wB, List.map_cons, List.map_nil, h]
theorem pool_ad {cI : ClassId} {bk bk' : Nat → BK} {nb : Nat} (h : ∀ i, i < nb → (bk i).1 = (bk' i).1) : (poolW cI bk nb).map (fun q => q.1) = (poolW cI bk' nb).map (fun q => q.1) := by
  unfold poolW
  rw [List.map_flatMap, List.map_flatMap, List.flatMap_def, List.flatMap_def]
  congr 1
  exact List.map_congr_left (fun j hj => wBk_ad (h j (List.mem_range.mp hj)))
theorem D_ad {A : Nat → Prop} {w w' : va_W} (h : w.map (fun q => q.1) = w'.map (fun q => q.1)) (hD : va_D A w) : va_D A w' := by
  rw [D_iff] at hD ⊢
  refine ⟨by rw [← h]; exact hD.1, fun q hq => ?_⟩
  have h1 : q.1 ∈ w'.map (fun q => q.1) := List.mem_map_of_mem hq
  rw [← h] at h1
  obtain ⟨q2, h2, h3⟩ := List.mem_map.mp h1
  rw [← h3]; exact hD.2 q2 h2
/-- the class's world at other rows that agree with its own -/
theorem CW_norm {D : va_G} {A : Nat → Prop} {cI cL cO : ClassId} {t0 x0 : Nat} {lim gen wrg rns als : Int32} {nb : Nat} {bk bk' : Nat → BK} {g : FL} {en bb : Int32} {w fr : va_W} {H : Heap} (hw : CW cI cL cO t0 x0 lim gen wrg rns als nb bk g en bb w) (h : ∀ i, i < nb → BKe (bk i) (bk' i)) (hP : va_P D vwCl (w ++ fr) H) (hD : va_D A (w ++ fr)) :
    ∃ w', CW cI cL cO t0 x0 lim gen wrg rns als nb bk' g en bb w' ∧ va_P D vwCl (w' ++ fr) H ∧ va_D A (w' ++ fr) := by
  obtain ⟨a0, k0, k1, u0, u1, u2, v0, v1, v2, t1, t2, t3, dd, hg, su, pl, hg1, su1, en1, bb1, g1, p1, hg2, su2, en2, bb2, g2, p2, mo, d0, cap, rf, ⟨hnb, hlk⟩, hp⟩ := hw
  refine ⟨_, ⟨a0, k0, k1, u0, u1, u2, v0, v1, v2, t1, t2, t3, dd, hg, su, pl, hg1, su1, en1, bb1, g1, p1, hg2, su2, en2, bb2, g2, p2, mo, d0, cap, rf, ⟨hnb, hlk.imp id (fun q => ⟨q.1, q.2.1, fun j hj => by rw [q.2.2 j hj, (h j hj).1]⟩)⟩, List.Perm.refl _⟩, ?_, ?_⟩
  · have h1 := P_perm (hp.append_right fr) hP
    rw [P_app, P_app] at h1 ⊢
    refine ⟨⟨h1.1.1, ?_⟩, h1.2⟩
    have h2 := h1.1.2
    unfold wLi wTl at h2 ⊢
    rw [P_app] at h2 ⊢
    refine ⟨h2.1, ?_⟩
    have h3 := h2.2
    split
    · exact P_nil
    · rename_i hne
      rw [if_neg hne, P_app] at h3
      rw [P_app]
      exact ⟨h3.1, pool_norm h h3.2⟩
  · have h1 := D_perm (hp.append_right fr) hD
    refine D_ad ?_ h1
    simp only [List.map_append, wLi, wTl]
    split
    · rfl
    · simp only [List.map_append, pool_ad (fun i hi => (h i hi).1)]
