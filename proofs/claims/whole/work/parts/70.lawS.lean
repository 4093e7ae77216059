theorem bl24 {nb : Nat} {bl : Int32} (hnb : nb ≤ 24) (hbl : bl = nI nb) : 0 ≤ bl.toInt ∧ bl.toInt ≤ 24 := by rw [hbl, nI_int (by omega)]; omega
theorem hicZ {nb : Nat} {ad : Nat → AD} {mn oo oa ob ss gg zz md : Fn} (hI : IV nb mn oo oa ob ss gg zz md) (hnb : nb ≤ 24) : ∀ j, j < nb → ¬ icB (bkZ ad mn oo oa ob ss gg zz md) j < 0 := fun j hj => nn_of (hI.1 j (by omega)).1
theorem CW_recv {D : va_G} {cI cL cO : ClassId} {s : State} {t0 x0 : Nat} {lim gen wrg rns als : Int32} {nb : Nat} {bk : Nat → BK} {g : FL} {en bb : Int32} {w fr : va_W} {H : Heap} (hw : CW cI cL cO t0 x0 lim gen wrg rns als nb bk g en bb w) (hK : KW D cI cL cO s) (hP : va_P D vwCl (w ++ fr) H) : ∃ cellB : Cell, H[x0]? = some cellB ∧ cellB.vm.isStatics = false ∧ s.vm.findClass R_M = some cellB.cls := by
  obtain ⟨a0, k0, k1, u0, u1, u2, v0, v1, v2, t1, t2, t3, dd, hg, su, pl, hg1, su1, en1, bb1, g1, p1, hg2, su2, en2, bb2, g2, p2, mo, d0, cap, rf, hk, hp⟩ := hw
  have h1 := P_perm (hp.append_right fr) hP
  unfold wCo at h1
  exact va_recv hK.1 (P_app.mp (P_app.mp (P_app.mp h1).1).1).1 (ci := 3) (q0 := 0) rfl rfl
theorem hwsW {c : Cond} {A : Array Value} {s : State} (k : c ∈ BIG) (ht : ∀ w ∈ BIG, w.before A s = true) : ∀ w ∈ (c :: BIG), ∀ (a' : Array Value) (U : State), s.WarmedH U.vm → w.before a' U = true := fun w h a' U hW => (List.mem_cons.mp h).elim (fun e => by rw [e]; exact gBIG_move hW k (ht _ k)) (fun h => gBIG_move hW h (ht w h))
theorem k_cl2 : Cond.constantLong R_L 107 4294967295 ∈ BIG := bmm (by decide +kernel) (by decide +kernel)
theorem vinL {i L k : Nat} (h : i + 6 ≤ L) (hL : L ≤ 3073) (hk : k ≤ 5) : vp_in (nI i + nI k) L := by
  have e1 := nI_toInt (n := i) (by omega)
  have e2 := nI_toInt (n := k) (by omega)
  have e : (nI i + nI k).toInt = i + k := by rw [i32_add (by omega) (by omega), e1, e2]
  exact vp_in_iff.mpr ⟨by omega, by omega⟩
theorem lg_eq {x y : Int64} (h : x = y) : lg_cmp x y = 0 := by subst h; unfold lg_cmp; simp
/-- what stands at the law's loop: the two sides agree -/
def LSt (D : va_G) (cI cL cO : ClassId) (A : Nat → Prop) (t0 x0 z0 o0 : Nat) (H : Heap) : Prop :=
  ∃ (w : va_W) (og : FL) (ad : Nat → AD) (nb : Nat) (y1 y2 y3 y4 y5 y6 y7 y8 y9 y10 y11 y12 y13 y14 : Nat) (mn oo oa ob ss gg zz md sd da : Fn) (rg pp kp ot : FL) (th li bl nw wr ru al sp en ke kb at0 : Int32), IV nb mn oo oa ob ss gg zz md ∧ nb ≤ 24 ∧ bl = nI nb ∧ CW cI cL cO t0 x0 li nw wr ru al nb (bkZ ad mn oo oa ob ss gg zz md) kp ke kb w ∧
    va_P D vwCl (wO cL o0 og ++ (wZ cI cL z0 y1 y2 y3 y4 y5 y6 y7 y8 y9 y10 y11 y12 y13 y14 mn oo oa ob ss gg zz md sd da rg pp kp ot th li bl nw wr ru al sp en ke kb at0 ++ (w ++ []))) H ∧ va_D A (wO cL o0 og ++ (wZ cI cL z0 y1 y2 y3 y4 y5 y6 y7 y8 y9 y10 y11 y12 y13 y14 mn oo oa ob ss gg zz md sd da rg pp kp ot th li bl nw wr ru al sp en ke kb at0 ++ (w ++ [])))
