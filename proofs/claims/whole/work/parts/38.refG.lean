theorem nI_or (a b : Nat) : nI a ||| nI b = nI (a ||| b) := by
  apply Int32.toBitVec_inj.mp
  show BitVec.ofNat 32 a ||| BitVec.ofNat 32 b = BitVec.ofNat 32 (a ||| b)
  exact BitVec.ofNat_or.symm
theorem byN {x : Int32} (h : 0 ≤ x.toInt ∧ x.toInt ≤ 255) : ∃ a : Nat, a < 256 ∧ x = nI a := by
  obtain ⟨j, hj, e⟩ := nI_of (nn_of h.1)
  have := nI_toInt hj
  rw [← e] at this
  exact ⟨j, by omega, e⟩
theorem shl_or {x y : Int32} (hx : 0 ≤ x.toInt ∧ x.toInt ≤ 255) (hy : 0 ≤ y.toInt ∧ y.toInt ≤ 255) : x <<< ((8 : Int32) &&& 31) ||| y = 256 * x + y := by
  obtain ⟨a, ha, rfl⟩ := byN hx
  obtain ⟨b, hb, rfl⟩ := byN hy
  rw [pk_shlN (n := a) ((8 : Int32) &&& 31) 8 (by decide) (by omega), nI_or, show (256 : Int32) = nI 256 from rfl, pk_mul, nI_add]
  congr 1
  have := Nat.two_pow_add_eq_or_of_lt (i := 8) (b := b) (by omega) a
  rw [Nat.mul_comm a (2 ^ 8), ← this]
theorem to_rng {x y : Int32} (hx : 0 ≤ x.toInt ∧ x.toInt ≤ 255) (hy : 0 ≤ y.toInt ∧ y.toInt ≤ 255) : 0 ≤ (256 * x + y).toInt := by
  have h2 : (256 : Int32).toInt = 256 := by decide
  have e : (256 * x).toInt = 256 * x.toInt := by rw [i32_mul (by rw [h2]; omega) (by rw [h2]; omega), h2]
  rw [i32_add (by omega) (by omega), e]
  omega
theorem vd_len9 {b d : Fn} {bc i : Int32} (h : VD b bc d) (h0 : 0 ≤ i.toInt) (c : ¬ d i.toNatClampNeg < 0) (c9 : b i.toNatClampNeg = 9) : i.toInt + 3 ≤ bc.toInt := by
  rcases h i.toNatClampNeg with q | q
  · rw [q] at c; exact absurd (by decide) c
  · have := q.2.2.1
    rw [c9, show (lenOf 9).toInt = 3 by decide, clN h0] at this
    exact this
theorem vbR {b d : Fn} {bc i : Int32} {n : Nat} (h0 : 0 ≤ i.toInt) (h1 : ¬ bc ≤ i) (hb : bc.toInt ≤ 300) (hV : VD b bc d) (hY : okY b) : vbL b bc d (n + 1) i =
    if d i.toNatClampNeg < 0 then vbL b bc d n (i + 1) else if b i.toNatClampNeg = 9 then
      (if d i.toNatClampNeg = 1 then (if bc ≤ 256 * b (i + 1).toNatClampNeg + b (i + 2).toNatClampNeg then 1 + i else if d (256 * b (i + 1).toNatClampNeg + b (i + 2).toNatClampNeg).toNatClampNeg = 0 then vbL b bc d n (i + 1) else 1 + i) else 1 + i)
    else vbL b bc d n (i + 1) := by
  have h2 := i_lt h1
  have h3 : ¬ (300 : Int32) ≤ i := by rw [Int32.le_iff_toInt_le, show (300 : Int32).toInt = 300 by decide]; omega
  simp only [vbL, if_neg h1, if_neg h3, rdF1 h0 h2 hb]
  by_cases q : d i.toNatClampNeg < 0
  · have e : d i.toNatClampNeg = -1 := by
      rcases hV i.toNatClampNeg with z | z
      · exact z
      · exact absurd q (nn_of z.1)
    rw [if_pos e, if_pos q]
  · have e : ¬ d i.toNatClampNeg = -1 := fun z => q (by rw [z]; decide)
    rw [if_neg e, if_neg q]
    by_cases c9 : b i.toNatClampNeg = 9
    · rw [if_pos c9, if_pos c9, show takenF 9 = 1 from rfl]
      by_cases d1 : d i.toNatClampNeg = 1
      · rw [if_pos d1, if_pos d1]
        have l := vd_len9 hV h0 q c9
        have e1 : (i + 1).toInt = i.toInt + 1 := i32_1 (by omega)
        have e2 : (i + 2).toInt = i.toInt + 2 := by rw [i32_add (by rw [show (2 : Int32).toInt = 2 by decide]; omega) (by rw [show (2 : Int32).toInt = 2 by decide]; omega)]; rfl
        have e3 : i + 1 + 1 = i + 2 := i32_ext (by rw [i32_1 (by omega), e1, e2]; omega)
        have y1 := hY (i + 1).toNatClampNeg (by have := clN (i := i + 1) (by omega); omega)
        have y2 := hY (i + 2).toNatClampNeg (by have := clN (i := i + 2) (by omega); omega)
        unfold rd2F
        rw [rdF1 (by omega) (by omega) hb, e3, rdF1 (by omega) (by omega) hb, shl_or y1 y2]
        have t0 := to_rng y1 y2
        generalize 256 * b (i + 1).toNatClampNeg + b (i + 2).toNatClampNeg = g at t0 ⊢
        unfold goalF
        rw [if_neg (nn_of t0)]
        by_cases g1 : bc ≤ g
        · rw [if_pos g1]
          rw [Int32.le_iff_toInt_le] at g1
          have dm : d g.toNatClampNeg = -1 := by
            rcases hV g.toNatClampNeg with z | z
            · exact z
            · have a1 := z.2.2.1
              have a2 := z.2.2.2
              rw [Int32.lt_iff_toInt_lt, show (1 : Int32).toInt = 1 by decide] at a2
              rw [clN t0] at a1
              omega
          rw [dm]
          by_cases g3 : (300 : Int32) ≤ g
          · rw [if_pos g3, if_pos rfl]
          · rw [if_neg g3, if_neg (show ¬ (-1 : Int32) = 0 by decide), if_pos rfl]
        · rw [if_neg g1]
          have g2 := i_lt g1
          rw [if_neg (show ¬ (300 : Int32) ≤ g by rw [Int32.le_iff_toInt_le, show (300 : Int32).toInt = 300 by decide]; omega)]
          by_cases g0 : d g.toNatClampNeg = 0
          · rw [if_pos g0, if_pos g0, if_neg (by decide)]
          · rw [if_neg g0, if_neg g0, if_pos rfl]
      · rw [if_neg d1, if_neg d1]
    · rw [if_neg c9, if_neg c9]
def vbI (b : Fn) (bc : Int32) (n : Nat) (p fo : Int32) : Prop := (fo = 0 ∧ (vcF b bc).1 = 0 ∧ vbL b bc (vcF b bc).2 n p = vdF b bc) ∨ (¬ fo = 0 ∧ fo = vdF b bc)
theorem vb_0 {b : Fn} {bc r : Int32} (e : r = (vcF b bc).1) : vbI b bc 301 0 r := by
  by_cases q : r = 0
  · exact Or.inl ⟨q, e ▸ q, by unfold vdF; rw [if_pos (e ▸ q)]⟩
  · exact Or.inr ⟨q, by unfold vdF; rw [if_neg (e ▸ q)]; exact e⟩
theorem vb_x {b : Fn} {bc p fo : Int32} {n : Nat} (h : vbI b bc (n + 1) p fo) (c : bc ≤ p) : fo = vdF b bc := by
  rcases h with ⟨h1, -, h3⟩ | ⟨-, h3⟩
  · rw [← h3, h1]; simp only [vbL, if_pos c]
  · exact h3
theorem ix300_2 {P : Prop} {k i : Int32} (hk : 0 ≤ k.toInt ∧ k.toInt < 24 ∧ P) (h0 : 0 ≤ i.toInt ∧ i.toInt + 2 < 300) : (300 * k + i + 2) = 300 * k + (i + 2) ∧ 0 ≤ (i + 2).toInt ∧ (i + 2).toInt < 300 := by
  have e1 := ix300 hk (i := i) ⟨h0.1, by omega⟩
  have h2 : (2 : Int32).toInt = 2 := by decide
  have e2 : (i + 2).toInt = i.toInt + 2 := by rw [i32_add (by rw [h2]; omega) (by rw [h2]; omega), h2]
  have e3 := ix300 hk (i := i + 2) ⟨by omega, by omega⟩
  exact ⟨i32_ext (by rw [i32_add (by rw [h2]; omega) (by rw [h2]; omega), h2, e3]; omega), by omega, by omega⟩
theorem vw300_2 {P : Prop} {f : Fn} {k i : Int32} (hk : 0 ≤ k.toInt ∧ k.toInt < 24 ∧ P) (h0 : 0 ≤ i.toInt ∧ i.toInt + 2 < 300) : f (300 * k + i + 2).toNatClampNeg = vw 300 f k (i + 2).toNatClampNeg := by
  obtain ⟨e, a, b⟩ := ix300_2 hk h0
  rw [e]; exact vw300 hk ⟨a, b⟩
theorem in300_2 {P : Prop} {k i : Int32} (hk : 0 ≤ k.toInt ∧ k.toInt < 24 ∧ P) (h0 : 0 ≤ i.toInt ∧ i.toInt + 2 < 300) : vp_in (300 * k + i + 2) 7200 := by
  obtain ⟨e, a, b⟩ := ix300_2 hk h0
  rw [e]; exact in300 hk ⟨a, b⟩

abbrev w_Z_checkOf : List Cond := .code y_Z_checkOf b_Z_checkOf 7 (some .int) :: BIG
set_option maxHeartbeats 4000000 in
set_option maxRecDepth 100000 in
theorem c_Z_checkOf (l : Launch) (D : va_G) (cI cL cO : ClassId) (z0 : Nat) (y1 : Nat) (y2 : Nat) (y3 : Nat) (y4 : Nat) (y5 : Nat) (y6 : Nat) (y7 : Nat) (y8 : Nat) (y9 : Nat) (y10 : Nat) (y11 : Nat) (y12 : Nat) (y13 : Nat) (y14 : Nat) (mn : Fn) (oo : Fn) (oa : Fn) (ob : Fn) (ss : Fn) (gg : Fn) (zz : Fn) (md : Fn) (sd : Fn) (da : Fn) (rg : FL) (pp : FL) (kp : FL) (ot : FL) (th : Int32) (li : Int32) (bl : Int32) (nw : Int32) (wr : Int32) (ru : Int32) (al : Int32) (sp : Int32) (en : Int32) (ke : Int32) (kb : Int32) (at0 : Int32) (fr : va_W) (k : Int32) (hzz : ∀ j, j < 24 → 0 ≤ (zz j).toInt ∧ (zz j).toInt ≤ 300) (hk : 0 ≤ k.toInt ∧ k.toInt < 24 ∧ True) (hY : okY (vw 300 md k)) : CMi l y_Z_checkOf w_Z_checkOf ({ frames := 3, cells := 0, slots := 0, locals := 68 }) D cI cL cO [.ref z0, .int k] ((wZ cI cL z0 y1 y2 y3 y4 y5 y6 y7 y8 y9 y10 y11 y12 y13 y14 mn oo oa ob ss gg zz md sd da rg pp kp ot th li bl nw wr ru al sp en ke kb at0) ++ fr) (fun (r : Int32) (u : Fn) => r = vdF (vw 300 md k) (zz k.toNatClampNeg)) (fun u : Fn => ((wZ cI cL z0 y1 y2 y3 y4 y5 y6 y7 y8 y9 y10 y11 y12 y13 y14 mn oo oa ob ss gg zz md sd u rg pp kp ot th li bl nw wr ru al sp en ke kb at0) ++ fr)) 0 0 := by
  refine ofMi (cc := b_Z_checkOf) (maxL := 7) (ret := (some .int)) (by decide) rfl (Nat.le_of_ble_eq_true rfl) ?_
  intro p e s m below meth c A ls H Q hQ hx hb hr hlocks hin hts hown hml hP hK hD hS hA hl
  have hl : lv_has ls 7 [(0, .ref z0), (1, .int k)] := hl
  have hown : s.vm.findClass R_Z = some m.cls := hown
  have ht : ∀ w ∈ BIG, w.before _ s = true := fun w h => hts w (List.mem_cons_of_mem _ h)
  refine lv_aload_n hx hb d_Z_checkOf_0 rfl (lv_at hl 0 rfl) ?_
  refine lv_iload_n hx hb d_Z_checkOf_1 rfl (lv_at hl 1 rfl) ?_
  refine goMi (va_runV (As := [.int k]) (rest := []) ⟨hx, hb, hml, hown, hts⟩ (c_Z_checkCodes l D cI cL cO z0 y1 y2 y3 y4 y5 y6 y7 y8 y9 y10 y11 y12 y13 y14 mn oo oa ob ss gg zz md sd da rg pp kp ot th li bl nw wr ru al sp en ke kb at0 fr k hzz hk hY H.size) (cwV 1 hts (gBIG (m4 k_ml_Z_111 k_im_Z_checkCodes k_sel_Z_checkCodes k_ini_Z) k_co_Z_checkCodes) rfl rfl rfl (by decide +kernel) ⟨Nat.le_of_ble_eq_true rfl, Nat.le_of_ble_eq_true rfl⟩) ⟨PM.bl, va_recv hK.1 hP (ci := 5) (q0 := 0) rfl rfl, PM.pre hP hD hK⟩ rfl rfl hl.1 rfl (lv_room (Nat.le_of_ble_eq_true rfl)) d_Z_checkOf_2 ⟨Nat.le_of_ble_eq_true rfl, Nat.le_of_ble_eq_true rfl⟩) hD hS hA (fun r_2 u H locs hw hP hD hS => ?_)
  obtain ⟨da_2, rfl⟩ : ∃ z, z = u := ⟨_, rfl⟩
  have e_2 : r_2 = (vcF (vw 300 md k) (zz k.toNatClampNeg)).1 ∧ ((vcF (vw 300 md k) (zz k.toNatClampNeg)).1 = 0 → ∀ j : Nat, (j : Int) < (zz k.toNatClampNeg).toInt → da_2 j = (vcF (vw 300 md k) (zz k.toNatClampNeg)).2 j) := hw
  have hP : va_P D vwCl ((wZ cI cL z0 y1 y2 y3 y4 y5 y6 y7 y8 y9 y10 y11 y12 y13 y14 mn oo oa ob ss gg zz md sd da_2 rg pp kp ot th li bl nw wr ru al sp en ke kb at0) ++ fr) H := hP
  have hD : va_D A ((wZ cI cL z0 y1 y2 y3 y4 y5 y6 y7 y8 y9 y10 y11 y12 y13 y14 mn oo oa ob ss gg zz md sd da_2 rg pp kp ot th li bl nw wr ru al sp en ke kb at0) ++ fr) := hD
  refine lv_istore_n (lv' := [(2, .int r_2), (0, .ref z0), (1, .int k)]) hx hb d_Z_checkOf_5 rfl hl (by decide) rfl (fun ls hl => ?_)
  refine lv_aload_n hx hb d_Z_checkOf_6 rfl (lv_at hl 1 rfl) ?_
  refine va_get (ci := 5) (v := .ref y7) (C := R_Z) (T := T_Z) (N := 26) hx hb ht in_Z hown hK.1 hP 0 rfl rfl 13 (by decide) (ht _ k_fl_Z_28) (fun _ h9 => h9) rfl d_Z_checkOf_7 ?_
  refine lv_iload_n hx hb d_Z_checkOf_10 rfl (lv_at hl 2 rfl) ?_
  refine va_iald hx hb hK.1 hP 7 0 rfl rfl (in_k hk) d_Z_checkOf_11 ?_
  refine lv_istore_n (lv' := [(3, .int (zz k.toNatClampNeg)), (2, .int r_2), (0, .ref z0), (1, .int k)]) hx hb d_Z_checkOf_12 rfl hl (by decide) rfl (fun ls hl => ?_)
  refine lv_iconst (v := 0) hx hb d_Z_checkOf_13 (by decide) ?_
  refine lv_istore (lv' := [(4, .int 0), (3, .int (zz k.toNatClampNeg)), (2, .int r_2), (0, .ref z0), (1, .int k)]) hx hb d_Z_checkOf_14 hl (by decide) rfl (fun ls hl => ?_)
  have lp : ∀ (n : Nat) (fo : Int32) (p1 : Int32) (H : Heap) (locs : List Loc) (ls : Array Slot), (p1.toInt + (n : Int) = 301) → (0 ≤ p1.toInt ∧ p1.toInt ≤ 300) → (vbI (vw 300 md k) (zz k.toNatClampNeg) n p1 fo) → va_P D vwCl ((wZ cI cL z0 y1 y2 y3 y4 y5 y6 y7 y8 y9 y10 y11 y12 y13 y14 mn oo oa ob ss gg zz md sd da_2 rg pp kp ot th li bl nw wr ru al sp en ke kb at0) ++ fr) H → va_D A ((wZ cI cL z0 y1 y2 y3 y4 y5 y6 y7 y8 y9 y10 y11 y12 y13 y14 mn oo oa ob ss gg zz md sd da_2 rg pp kp ot th li bl nw wr ru al sp en ke kb at0) ++ fr) → va_S A s.heap H locs → lv_has ls 7 [(0, .ref z0), (1, .int k), (2, .int fo), (3, .int (zz k.toNatClampNeg)), (4, .int p1)] → W p l e ({ frames := 3, cells := 0, slots := 0, locals := 68 } : Room) s m ([.ref z0, .int k] : List Value).toArray below meth c H locs 0 0 Q (F0 m 16 ls []) := by
    intro n
    induction n with
    | zero =>
      intro fo p1 H locs ls hn hi hF hP hD hS hl
      exact absurd hn (by omega)
    | succ n ih =>
      intro fo p1 H locs ls hn hi hF hP hD hS hl
      refine lv_iload hx hb d_Z_checkOf_16 (lv_at hl 4 rfl) ?_
      refine lv_iload_n hx hb d_Z_checkOf_18 rfl (lv_at hl 3 rfl) ?_
      refine lv_icmp_ge (tgt := 121) hx hb d_Z_checkOf_19 (by decide) (fun c_19 => ?_) (fun c_19 => ?_)
      · refine lv_iload_n hx hb d_Z_checkOf_121 rfl (lv_at hl 2 rfl) ?_
        rw [hQ]; exact retMi (w1 := fun u : Fn => ((wZ cI cL z0 y1 y2 y3 y4 y5 y6 y7 y8 y9 y10 y11 y12 y13 y14 mn oo oa ob ss gg zz md sd u rg pp kp ot th li bl nw wr ru al sp en ke kb at0) ++ fr)) da_2 hx hb hr hlocks hP hD hS (vb_x hF c_19) d_Z_checkOf_122
      · refine lv_iload_n hx hb d_Z_checkOf_22 rfl (lv_at hl 2 rfl) ?_
        refine lv_if_ne (tgt := 121) hx hb d_Z_checkOf_23 (by decide) (fun c_23 => ?_) (fun c_23 => ?_)
        · refine lv_iload_n hx hb d_Z_checkOf_121 rfl (lv_at hl 2 rfl) ?_
          rw [hQ]; exact retMi (w1 := fun u : Fn => ((wZ cI cL z0 y1 y2 y3 y4 y5 y6 y7 y8 y9 y10 y11 y12 y13 y14 mn oo oa ob ss gg zz md sd u rg pp kp ot th li bl nw wr ru al sp en ke kb at0) ++ fr)) da_2 hx hb hr hlocks hP hD hS (hF.resolve_left (fun q => c_23 q.1)).2 d_Z_checkOf_122
        · obtain ⟨hz, hv⟩ := (hF.resolve_right (fun q => q.1 c_23)).2
          have hg := e_2.2 hz
          rw [vbR (n := n) hi.1 c_19 (hzz _ (kc hk)).2 (vcF_VD (hzz _ (kc hk)).2 hY) hY] at hv
          refine lv_sipush (v := 300) hx hb d_Z_checkOf_26 (by decide) ?_
          refine lv_iload_n hx hb d_Z_checkOf_29 rfl (lv_at hl 1 rfl) ?_
          refine lv_imul hx hb d_Z_checkOf_30 ?_
          refine lv_iload hx hb d_Z_checkOf_31 (lv_at hl 4 rfl) ?_
          refine lv_iadd hx hb d_Z_checkOf_33 ?_
          refine lv_istore (lv' := [(5, .int ((300 * k) + p1)), (0, .ref z0), (1, .int k), (2, .int fo), (3, .int (zz k.toNatClampNeg)), (4, .int p1)]) hx hb d_Z_checkOf_34 hl (by decide) rfl (fun ls hl => ?_)
          refine lv_aload_n hx hb d_Z_checkOf_36 rfl (lv_at hl 1 rfl) ?_
          refine va_get (ci := 5) (v := .ref y10) (C := R_Z) (T := T_Z) (N := 26) hx hb ht in_Z hown hK.1 hP 0 rfl rfl 16 (by decide) (ht _ k_fl_Z_37) (fun _ h9 => h9) rfl d_Z_checkOf_37 ?_
          refine lv_iload hx hb d_Z_checkOf_40 (lv_at hl 5 rfl) ?_
          refine va_iald hx hb hK.1 hP 10 0 rfl rfl (in301 hi.1 (by omega)) d_Z_checkOf_42 ?_
          rw [show da_2 p1.toNatClampNeg = (vcF (vw 300 md k) (zz k.toNatClampNeg)).2 p1.toNatClampNeg from (hg _ (by rw [clN (by omega)]; exact i_lt c_19))]
          refine lv_if_lt (tgt := 115) hx hb d_Z_checkOf_43 (by decide) (fun c_43 => ?_) (fun c_43 => ?_)
          · refine lv_iinc (v := p1 + 1) (lv' := [(4, .int (p1 + 1)), (5, .int ((300 * k) + p1)), (0, .ref z0), (1, .int k), (2, .int fo), (3, .int (zz k.toNatClampNeg))]) hx hb d_Z_checkOf_115 hl (k := 5) rfl rfl (by decide) rfl (fun ls hl => ?_)
            refine lv_goto (tgt := 16) hx hb d_Z_checkOf_118 (by decide) ?_
            exact ih fo (p1 + 1) _ _ ls (by rw [i32_1 (by omega)]; omega) (by rw [i32_1 (by omega)]; have := i_lt c_19; have := (hzz _ (kc hk)).2; omega) (Or.inl ⟨c_23, hz, by rw [← hv]; simp only [if_pos c_43]⟩) hP hD hS (lv_sub hl [2, 3, 4, 5, 0] rfl)
          · refine lv_aload_n hx hb d_Z_checkOf_46 rfl (lv_at hl 1 rfl) ?_
            refine va_get (ci := 5) (v := .ref y8) (C := R_Z) (T := T_Z) (N := 26) hx hb ht in_Z hown hK.1 hP 0 rfl rfl 14 (by decide) (ht _ k_fl_Z_31) (fun _ h9 => h9) rfl d_Z_checkOf_47 ?_
            refine lv_iload hx hb d_Z_checkOf_50 (lv_at hl 0 rfl) ?_
            refine va_iald hx hb hK.1 hP 8 0 rfl rfl (in300 hk ⟨hi.1, by have := i_lt c_19; have := (hzz _ (kc hk)).2; omega⟩) d_Z_checkOf_52 ?_
            rw [show md ((300 * k) + p1).toNatClampNeg = vw 300 md k p1.toNatClampNeg from (vw300 hk ⟨hi.1, by have := i_lt c_19; have := (hzz _ (kc hk)).2; omega⟩)]
            refine lv_bipush (v := 9) hx hb d_Z_checkOf_53 (by decide) ?_
            refine lv_icmp_ne (tgt := 115) hx hb d_Z_checkOf_55 (by decide) (fun c_55 => ?_) (fun c_55 => ?_)
            · refine lv_iinc (v := p1 + 1) (lv' := [(4, .int (p1 + 1)), (5, .int ((300 * k) + p1)), (0, .ref z0), (1, .int k), (2, .int fo), (3, .int (zz k.toNatClampNeg))]) hx hb d_Z_checkOf_115 hl (k := 5) rfl rfl (by decide) rfl (fun ls hl => ?_)
              refine lv_goto (tgt := 16) hx hb d_Z_checkOf_118 (by decide) ?_
              exact ih fo (p1 + 1) _ _ ls (by rw [i32_1 (by omega)]; omega) (by rw [i32_1 (by omega)]; have := i_lt c_19; have := (hzz _ (kc hk)).2; omega) (Or.inl ⟨c_23, hz, by rw [← hv]; simp only [if_neg c_43, if_neg c_55]⟩) hP hD hS (lv_sub hl [2, 3, 4, 5, 0] rfl)
            · refine lv_sipush (v := 256) hx hb d_Z_checkOf_58 (by decide) ?_
              refine lv_aload_n hx hb d_Z_checkOf_61 rfl (lv_at hl 1 rfl) ?_
              refine va_get (ci := 5) (v := .ref y8) (C := R_Z) (T := T_Z) (N := 26) hx hb ht in_Z hown hK.1 hP 0 rfl rfl 14 (by decide) (ht _ k_fl_Z_31) (fun _ h9 => h9) rfl d_Z_checkOf_62 ?_
              refine lv_iload hx hb d_Z_checkOf_65 (lv_at hl 0 rfl) ?_
              refine lv_iconst (v := 1) hx hb d_Z_checkOf_67 (by decide) ?_
              refine lv_iadd hx hb d_Z_checkOf_68 ?_
              refine va_iald hx hb hK.1 hP 8 0 rfl rfl (in300_1 hk ⟨hi.1, (by have := vd_len9 (vcF_VD (hzz _ (kc hk)).2 hY) hi.1 c_43 c_55; have := (hzz _ (kc hk)).2; omega)⟩) d_Z_checkOf_69 ?_
              rw [show md (((300 * k) + p1) + 1).toNatClampNeg = vw 300 md k (p1 + 1).toNatClampNeg from (vw300_1 hk ⟨hi.1, (by have := vd_len9 (vcF_VD (hzz _ (kc hk)).2 hY) hi.1 c_43 c_55; have := (hzz _ (kc hk)).2; omega)⟩)]
              refine lv_imul hx hb d_Z_checkOf_70 ?_
              refine lv_aload_n hx hb d_Z_checkOf_71 rfl (lv_at hl 1 rfl) ?_
              refine va_get (ci := 5) (v := .ref y8) (C := R_Z) (T := T_Z) (N := 26) hx hb ht in_Z hown hK.1 hP 0 rfl rfl 14 (by decide) (ht _ k_fl_Z_31) (fun _ h9 => h9) rfl d_Z_checkOf_72 ?_
              refine lv_iload hx hb d_Z_checkOf_75 (lv_at hl 0 rfl) ?_
              refine lv_iconst (v := 2) hx hb d_Z_checkOf_77 (by decide) ?_
              refine lv_iadd hx hb d_Z_checkOf_78 ?_
              refine va_iald hx hb hK.1 hP 8 0 rfl rfl (in300_2 hk ⟨hi.1, (by have := vd_len9 (vcF_VD (hzz _ (kc hk)).2 hY) hi.1 c_43 c_55; have := (hzz _ (kc hk)).2; omega)⟩) d_Z_checkOf_79 ?_
              rw [show md (((300 * k) + p1) + 2).toNatClampNeg = vw 300 md k (p1 + 2).toNatClampNeg from (vw300_2 hk ⟨hi.1, (by have := vd_len9 (vcF_VD (hzz _ (kc hk)).2 hY) hi.1 c_43 c_55; have := (hzz _ (kc hk)).2; omega)⟩)]
              refine lv_iadd hx hb d_Z_checkOf_80 ?_
              refine lv_istore (lv' := [(6, .int ((256 * (vw 300 md k (p1 + 1).toNatClampNeg)) + (vw 300 md k (p1 + 2).toNatClampNeg))), (5, .int ((300 * k) + p1)), (0, .ref z0), (1, .int k), (2, .int fo), (3, .int (zz k.toNatClampNeg)), (4, .int p1)]) hx hb d_Z_checkOf_81 hl (by decide) rfl (fun ls hl => ?_)
              refine lv_aload_n hx hb d_Z_checkOf_83 rfl (lv_at hl 2 rfl) ?_
              refine va_get (ci := 5) (v := .ref y10) (C := R_Z) (T := T_Z) (N := 26) hx hb ht in_Z hown hK.1 hP 0 rfl rfl 16 (by decide) (ht _ k_fl_Z_37) (fun _ h9 => h9) rfl d_Z_checkOf_84 ?_
              refine lv_iload hx hb d_Z_checkOf_87 (lv_at hl 6 rfl) ?_
              refine va_iald hx hb hK.1 hP 10 0 rfl rfl (in301 hi.1 (by omega)) d_Z_checkOf_89 ?_
              rw [show da_2 p1.toNatClampNeg = (vcF (vw 300 md k) (zz k.toNatClampNeg)).2 p1.toNatClampNeg from (hg _ (by rw [clN (by omega)]; exact i_lt c_19))]
              refine lv_iconst (v := 1) hx hb d_Z_checkOf_90 (by decide) ?_
              refine lv_icmp_ne (tgt := 110) hx hb d_Z_checkOf_91 (by decide) (fun c_91 => ?_) (fun c_91 => ?_)
              · refine lv_iconst (v := 1) hx hb d_Z_checkOf_110 (by decide) ?_
                refine lv_iload hx hb d_Z_checkOf_111 (lv_at hl 6 rfl) ?_
                refine lv_iadd hx hb d_Z_checkOf_113 ?_
                refine lv_istore_n (lv' := [(2, .int (1 + p1)), (6, .int ((256 * (vw 300 md k (p1 + 1).toNatClampNeg)) + (vw 300 md k (p1 + 2).toNatClampNeg))), (5, .int ((300 * k) + p1)), (0, .ref z0), (1, .int k), (3, .int (zz k.toNatClampNeg)), (4, .int p1)]) hx hb d_Z_checkOf_114 rfl hl (by decide) rfl (fun ls hl => ?_)
                refine lv_iinc (v := p1 + 1) (lv' := [(4, .int (p1 + 1)), (2, .int (1 + p1)), (6, .int ((256 * (vw 300 md k (p1 + 1).toNatClampNeg)) + (vw 300 md k (p1 + 2).toNatClampNeg))), (5, .int ((300 * k) + p1)), (0, .ref z0), (1, .int k), (3, .int (zz k.toNatClampNeg))]) hx hb d_Z_checkOf_115 hl (k := 6) rfl rfl (by decide) rfl (fun ls hl => ?_)
                refine lv_goto (tgt := 16) hx hb d_Z_checkOf_118 (by decide) ?_
                exact ih (1 + p1) (p1 + 1) _ _ ls (by rw [i32_1 (by omega)]; omega) (by rw [i32_1 (by omega)]; have := i_lt c_19; have := (hzz _ (kc hk)).2; omega) (Or.inr ⟨one_p hi.1 (by omega), by rw [← hv]; simp only [if_neg c_43, if_pos c_55, if_neg c_91]⟩) hP hD hS (lv_sub hl [4, 5, 1, 6, 0] rfl)
              · refine lv_iload hx hb d_Z_checkOf_94 (lv_at hl 0 rfl) ?_
                refine lv_iload_n hx hb d_Z_checkOf_96 rfl (lv_at hl 5 rfl) ?_
                refine lv_icmp_ge (tgt := 110) hx hb d_Z_checkOf_97 (by decide) (fun c_97 => ?_) (fun c_97 => ?_)
                · refine lv_iconst (v := 1) hx hb d_Z_checkOf_110 (by decide) ?_
                  refine lv_iload hx hb d_Z_checkOf_111 (lv_at hl 6 rfl) ?_
                  refine lv_iadd hx hb d_Z_checkOf_113 ?_
                  refine lv_istore_n (lv' := [(2, .int (1 + p1)), (6, .int ((256 * (vw 300 md k (p1 + 1).toNatClampNeg)) + (vw 300 md k (p1 + 2).toNatClampNeg))), (5, .int ((300 * k) + p1)), (0, .ref z0), (1, .int k), (3, .int (zz k.toNatClampNeg)), (4, .int p1)]) hx hb d_Z_checkOf_114 rfl hl (by decide) rfl (fun ls hl => ?_)
                  refine lv_iinc (v := p1 + 1) (lv' := [(4, .int (p1 + 1)), (2, .int (1 + p1)), (6, .int ((256 * (vw 300 md k (p1 + 1).toNatClampNeg)) + (vw 300 md k (p1 + 2).toNatClampNeg))), (5, .int ((300 * k) + p1)), (0, .ref z0), (1, .int k), (3, .int (zz k.toNatClampNeg))]) hx hb d_Z_checkOf_115 hl (k := 6) rfl rfl (by decide) rfl (fun ls hl => ?_)
                  refine lv_goto (tgt := 16) hx hb d_Z_checkOf_118 (by decide) ?_
                  exact ih (1 + p1) (p1 + 1) _ _ ls (by rw [i32_1 (by omega)]; omega) (by rw [i32_1 (by omega)]; have := i_lt c_19; have := (hzz _ (kc hk)).2; omega) (Or.inr ⟨one_p hi.1 (by omega), by rw [← hv]; simp only [if_neg c_43, if_pos c_55, if_pos c_91, if_pos c_97]⟩) hP hD hS (lv_sub hl [4, 5, 1, 6, 0] rfl)
                · refine lv_aload_n hx hb d_Z_checkOf_100 rfl (lv_at hl 2 rfl) ?_
                  refine va_get (ci := 5) (v := .ref y10) (C := R_Z) (T := T_Z) (N := 26) hx hb ht in_Z hown hK.1 hP 0 rfl rfl 16 (by decide) (ht _ k_fl_Z_37) (fun _ h9 => h9) rfl d_Z_checkOf_101 ?_
                  refine lv_iload hx hb d_Z_checkOf_104 (lv_at hl 0 rfl) ?_
                  refine va_iald hx hb hK.1 hP 10 0 rfl rfl (in301 (to_rng (hY _ (by have := clN (i := p1 + 1) (by rw [i32_1 (by omega)]; omega); have := vd_len9 (vcF_VD (hzz _ (kc hk)).2 hY) hi.1 c_43 c_55; have := i32_1 (x := p1) (by omega); have := (hzz _ (kc hk)).2; omega)) (hY _ (by have := (ix300_2 hk ⟨hi.1, (by have := vd_len9 (vcF_VD (hzz _ (kc hk)).2 hY) hi.1 c_43 c_55; have := (hzz _ (kc hk)).2; omega)⟩).2; have := clN (i := p1 + 2) (by omega); omega))) (by have := i_lt c_97; have := (hzz _ (kc hk)).2; omega)) d_Z_checkOf_106 ?_
                  rw [show da_2 ((256 * (vw 300 md k (p1 + 1).toNatClampNeg)) + (vw 300 md k (p1 + 2).toNatClampNeg)).toNatClampNeg = (vcF (vw 300 md k) (zz k.toNatClampNeg)).2 (256 * (vw 300 md k (p1 + 1).toNatClampNeg) + (vw 300 md k (p1 + 2).toNatClampNeg)).toNatClampNeg from (hg _ (by rw [clN (to_rng (hY _ (by have := clN (i := p1 + 1) (by rw [i32_1 (by omega)]; omega); have := vd_len9 (vcF_VD (hzz _ (kc hk)).2 hY) hi.1 c_43 c_55; have := i32_1 (x := p1) (by omega); have := (hzz _ (kc hk)).2; omega)) (hY _ (by have := (ix300_2 hk ⟨hi.1, (by have := vd_len9 (vcF_VD (hzz _ (kc hk)).2 hY) hi.1 c_43 c_55; have := (hzz _ (kc hk)).2; omega)⟩).2; have := clN (i := p1 + 2) (by omega); omega)))]; exact i_lt c_97))]
                  refine lv_if_eq (tgt := 115) hx hb d_Z_checkOf_107 (by decide) (fun c_107 => ?_) (fun c_107 => ?_)
                  · refine lv_iinc (v := p1 + 1) (lv' := [(4, .int (p1 + 1)), (6, .int ((256 * (vw 300 md k (p1 + 1).toNatClampNeg)) + (vw 300 md k (p1 + 2).toNatClampNeg))), (5, .int ((300 * k) + p1)), (0, .ref z0), (1, .int k), (2, .int fo), (3, .int (zz k.toNatClampNeg))]) hx hb d_Z_checkOf_115 hl (k := 6) rfl rfl (by decide) rfl (fun ls hl => ?_)
                    refine lv_goto (tgt := 16) hx hb d_Z_checkOf_118 (by decide) ?_
                    exact ih fo (p1 + 1) _ _ ls (by rw [i32_1 (by omega)]; omega) (by rw [i32_1 (by omega)]; have := i_lt c_19; have := (hzz _ (kc hk)).2; omega) (Or.inl ⟨c_23, hz, by rw [← hv]; simp only [if_neg c_43, if_pos c_55, if_pos c_91, if_neg c_97, if_pos c_107]⟩) hP hD hS (lv_sub hl [3, 4, 5, 6, 0] rfl)
                  · refine lv_iconst (v := 1) hx hb d_Z_checkOf_110 (by decide) ?_
                    refine lv_iload hx hb d_Z_checkOf_111 (lv_at hl 6 rfl) ?_
                    refine lv_iadd hx hb d_Z_checkOf_113 ?_
                    refine lv_istore_n (lv' := [(2, .int (1 + p1)), (6, .int ((256 * (vw 300 md k (p1 + 1).toNatClampNeg)) + (vw 300 md k (p1 + 2).toNatClampNeg))), (5, .int ((300 * k) + p1)), (0, .ref z0), (1, .int k), (3, .int (zz k.toNatClampNeg)), (4, .int p1)]) hx hb d_Z_checkOf_114 rfl hl (by decide) rfl (fun ls hl => ?_)
                    refine lv_iinc (v := p1 + 1) (lv' := [(4, .int (p1 + 1)), (2, .int (1 + p1)), (6, .int ((256 * (vw 300 md k (p1 + 1).toNatClampNeg)) + (vw 300 md k (p1 + 2).toNatClampNeg))), (5, .int ((300 * k) + p1)), (0, .ref z0), (1, .int k), (3, .int (zz k.toNatClampNeg))]) hx hb d_Z_checkOf_115 hl (k := 6) rfl rfl (by decide) rfl (fun ls hl => ?_)
                    refine lv_goto (tgt := 16) hx hb d_Z_checkOf_118 (by decide) ?_
                    exact ih (1 + p1) (p1 + 1) _ _ ls (by rw [i32_1 (by omega)]; omega) (by rw [i32_1 (by omega)]; have := i_lt c_19; have := (hzz _ (kc hk)).2; omega) (Or.inr ⟨one_p hi.1 (by omega), by rw [← hv]; simp only [if_neg c_43, if_pos c_55, if_pos c_91, if_neg c_97, if_neg c_107]⟩) hP hD hS (lv_sub hl [4, 5, 1, 6, 0] rfl)
  exact lp 301 r_2 0 _ _ ls (by decide) (by decide) (vb_0 e_2.1) hP hD hS (lv_sub hl [3, 4, 2, 1, 0] rfl)
