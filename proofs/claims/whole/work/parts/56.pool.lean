/-! a block as one thing: addresses, rows, numbers -/
abbrev BK : Type := (Nat × Nat × Nat × Nat × Nat × Nat) × (Fn × Fn × Fn × Fn × Fn) × (Int32 × Int32 × Int32 × Int32)
def wBk (cI : ClassId) (z : BK) : va_W := wB cI z.1.1 z.1.2.1 z.1.2.2.1 z.1.2.2.2.1 z.1.2.2.2.2.1 z.1.2.2.2.2.2 z.2.1.1 z.2.1.2.1 z.2.1.2.2.1 z.2.1.2.2.2.1 z.2.1.2.2.2.2 z.2.2.1 z.2.2.2.1 z.2.2.2.2.1 z.2.2.2.2.2
def poolW (cI : ClassId) (bk : Nat → BK) (nb : Nat) : va_W := (List.range nb).flatMap (fun j => wBk cI (bk j))
def restW (cI : ClassId) (bk : Nat → BK) (nb i : Nat) : va_W := ((List.range nb).erase i).flatMap (fun j => wBk cI (bk j))
def upB (bk : Nat → BK) (i : Nat) (z : BK) : Nat → BK := fun j => if j = i then z else bk j
theorem upB_at {bk : Nat → BK} {i : Nat} {z : BK} : upB bk i z i = z := if_pos rfl
theorem upB_ne {bk : Nat → BK} {i j : Nat} {z : BK} (h : j ≠ i) : upB bk i z j = bk j := if_neg h
theorem pool_foc0 (cI : ClassId) (bk : Nat → BK) {nb i : Nat} (h : i < nb) : (poolW cI bk nb).Perm (wBk cI (bk i) ++ restW cI bk nb i) := by
  have h1 := (List.perm_cons_erase (List.mem_range.mpr h)).flatMap_right (fun j => wBk cI (bk j))
  rw [List.flatMap_cons] at h1
  exact h1
theorem pool_foc (cI : ClassId) (bk : Nat → BK) {nb i : Nat} (h : i < nb) (fr : va_W) : (poolW cI bk nb ++ fr).Perm (wBk cI (bk i) ++ (restW cI bk nb i ++ fr)) := by
  rw [← List.append_assoc]
  exact (pool_foc0 cI bk h).append_right fr
theorem fm_congr {l : List Nat} {f g : Nat → va_W} (h : ∀ j ∈ l, f j = g j) : l.flatMap f = l.flatMap g := by
  rw [List.flatMap_def, List.flatMap_def, List.map_congr_left h]
theorem rest_up (cI : ClassId) (bk : Nat → BK) (nb i : Nat) (z : BK) : restW cI (upB bk i z) nb i = restW cI bk nb i :=
  fm_congr (fun j hj => by rw [upB_ne ((List.nodup_range.mem_erase_iff.mp hj).1)])
theorem pool_unf (cI : ClassId) (bk : Nat → BK) {nb i : Nat} (z : BK) (h : i < nb) (fr : va_W) : (wBk cI z ++ (restW cI bk nb i ++ fr)).Perm (poolW cI (upB bk i z) nb ++ fr) := by
  have h1 := (pool_foc cI (upB bk i z) h fr).symm
  rw [upB_at, rest_up] at h1
  exact h1
theorem pool_new (cI : ClassId) (bk : Nat → BK) (nb : Nat) (z : BK) (fr : va_W) : (wBk cI z ++ (poolW cI bk nb ++ fr)).Perm (poolW cI (upB bk nb z) (nb + 1) ++ fr) := by
  have e : poolW cI (upB bk nb z) (nb + 1) = poolW cI bk nb ++ wBk cI z := by
    unfold poolW
    rw [List.range_succ, List.flatMap_append, List.flatMap_cons, List.flatMap_nil, List.append_nil, upB_at]
    congr 1
    exact fm_congr (fun j hj => by rw [upB_ne (by have := List.mem_range.mp hj; omega)])
  rw [e, List.append_assoc]
  exact List.perm_append_comm_assoc _ _ _
theorem nI_int {n : Nat} (h : n ≤ 40) : (nI n).toInt = n := by
  have h1 := nI_clamp (n := n) (by omega)
  have h2 : ¬ nI n < 0 := nI_pos (by omega)
  have h3 := clN (of_nn h2)
  omega
theorem ix_lt {ix sz : Int32} {nb : Nat} (hsz : sz = nI nb) (hnb : nb ≤ 24) (hi : 0 ≤ ix.toInt ∧ ix.toInt ≤ 24) (c : ¬ sz ≤ ix) : ix.toNatClampNeg < nb := by
  subst hsz
  have h1 := i_lt c
  rw [nI_int (by omega)] at h1
  have := clN hi.1
  omega
theorem ix_in {ix : Int32} {nb cap : Nat} (hi : 0 ≤ ix.toInt ∧ ix.toInt ≤ 24) (h : ix.toNatClampNeg < nb) (hc : nb ≤ cap) : vp_in ix cap := by
  have := clN hi.1
  exact vp_in_iff.mpr ⟨hi.1, by omega⟩
theorem sz_24 {ix sz : Int32} {nb : Nat} (hsz : sz = nI nb) (hnb : nb ≤ 24) (hi : 0 ≤ ix.toInt ∧ ix.toInt ≤ 24) (c : ¬ sz ≤ ix) : ix.toInt < 24 := by
  have := ix_lt hsz hnb hi c
  have := clN hi.1
  omega
theorem hrf_up {rf : Nat → Option Nat} {bk : Nat → BK} {nb i : Nat} {z z0 : BK} (h : ∀ j, j < nb → rf j = some (bk j).1.1) (e : bk i = z0) (hz : z.1.1 = z0.1.1) : ∀ j, j < nb → rf j = some (upB bk i z j).1.1 := by
  intro j hj
  unfold upB
  split
  · rename_i e1; subst e1; rw [hz, ← e]; exact h _ hj
  · exact h _ hj
def oB (bk : Nat → BK) : Nat → Fn := fun j => (bk j).2.1.1
def icB (bk : Nat → BK) : Fn := fun j => (bk j).2.2.1
def bcB (bk : Nat → BK) : Fn := fun j => (bk j).2.2.2.1
def saB (bk : Nat → BK) : Fn := fun j => (bk j).2.2.2.2.1
def gnB (bk : Nat → BK) : Fn := fun j => (bk j).2.2.2.2.2
def byB (bk : Nat → BK) : Nat → Fn := fun j => (bk j).2.1.2.2.2.2
def stB (z : BK) (s : Int32) : BK := (z.1, z.2.1, z.2.2.1, z.2.2.2.1, s, z.2.2.2.2.2)
def rowsB (z : BK) : BK := (z.1, z.2.1, z.2.2.1, 0, 0, -1)
/-! how many blocks are so; a border; a generation more -/
def btL (ss : Fn) (sz st : Int32) : Nat → Int32 → Int32 → Int32
  | 0, _, q => q
  | n + 1, i, q => if sz ≤ i then q else btL ss sz st n (i + 1) (if ss i.toNatClampNeg = st then q + 1 else q)
def bdL (sz : Int32) : Nat → Int32 → Int32 → Int32 → (Nat → BK) → Int32 × Int32 × (Nat → BK)
  | 0, _, q, w, bk => (q, w, bk)
  | n + 1, i, q, w, bk => if sz ≤ i then (q, w, bk) else if saB bk i.toNatClampNeg = 1 then
      (if vdF (byB bk i.toNatClampNeg) (bcB bk i.toNatClampNeg) = 0 then bdL sz n (i + 1) (q + 1) w (upB bk i.toNatClampNeg (stB (bk i.toNatClampNeg) 2)) else bdL sz n (i + 1) q (w + 1) (upB bk i.toNatClampNeg (rowsB (bk i.toNatClampNeg))))
    else bdL sz n (i + 1) q w bk
def nbL (old sz : Int32) : Nat → Int32 → Int32 → (Nat → BK) → Int32 × (Nat → BK)
  | 0, _, q, bk => (q, bk)
  | n + 1, i, q, bk => if sz ≤ i then (q, bk) else if saB bk i.toNatClampNeg = 0 then nbL old sz n (i + 1) q bk else if old ≤ gnB bk i.toNatClampNeg then nbL old sz n (i + 1) q bk else nbL old sz n (i + 1) (q + 1) (upB bk i.toNatClampNeg (rowsB (bk i.toNatClampNeg)))
def ctM (w sz gen lim wrg rns als : Int32) (ss : Fn) : Int32 := if w = 0 then sz else if w = 1 then gen else if w = 2 then maxF 0 (gen - lim + 1) else if w = 3 then btL ss sz 2 25 0 0 else if w = 4 then btL ss sz 1 25 0 0 else if w = 5 then wrg else if w = 6 then rns else if w = 7 then als else if w = 8 then lim else -1

abbrev w_M_blocksThatAre : List Cond := .code y_M_blocksThatAre b_M_blocksThatAre 4 (some .int) :: BIG
set_option maxHeartbeats 1000000 in
set_option maxRecDepth 100000 in
theorem c_M_blocksThatAre (l : Launch) (D : va_G) (cI cL cO : ClassId) (x0 : Nat) (lim : Int32) (a0 : Nat) (k0 : Nat) (u0 : Nat) (v0 : Nat) (t1 : Nat) (gen : Int32) (wrg : Int32) (rns : Int32) (als : Int32) (d0 : Nat) (sz : Int32) (mo : Int32) (cap : Nat) (rf : Nat → Option Nat) (bk : Nat → BK) (nb : Nat) (st : Int32) (hsz : sz = nI nb) (hnb : nb ≤ 24) (hcap : nb ≤ cap) (hrf : ∀ j, j < nb → rf j = some (bk j).1.1) : CRi l y_M_blocksThatAre w_M_blocksThatAre ({ frames := 3, cells := 0, slots := 0, locals := 64 }) D cI cL cO [.ref x0, .int st] ((wX x0 lim a0 k0 u0 v0 t1 gen wrg rns als) ++ ((wH a0 d0 sz mo) ++ ((wR cO d0 cap rf) ++ (poolW cI bk nb)))) (btL (saB bk) sz st 25 0 0) := by
  refine ofR (cc := b_M_blocksThatAre) (maxL := 4) (ret := (some .int)) (by decide) rfl (Nat.le_of_ble_eq_true rfl) ?_
  intro p e s m below meth c ls Q hQ hx hb hr hlocks hts hown hml hP hK hl
  have hl : lv_has ls 4 [(0, .ref x0), (1, .int st)] := hl
  have hown : s.vm.findClass R_M = some m.cls := hown
  have ht : ∀ w ∈ BIG, w.before _ s = true := fun w h => hts w (List.mem_cons_of_mem _ h)
  refine lv_iconst (v := 0) hx hb d_M_blocksThatAre_0 (by decide) ?_
  refine lv_istore_n (lv' := [(2, .int 0), (0, .ref x0), (1, .int st)]) hx hb d_M_blocksThatAre_1 rfl hl (by decide) rfl (fun ls hl => ?_)
  refine lv_iconst (v := 0) hx hb d_M_blocksThatAre_2 (by decide) ?_
  refine lv_istore_n (lv' := [(3, .int 0), (2, .int 0), (0, .ref x0), (1, .int st)]) hx hb d_M_blocksThatAre_3 rfl hl (by decide) rfl (fun ls hl => ?_)
  have lp : ∀ (n : Nat) (q : Int32) (ix : Int32) (ls : Array Slot), (ix.toInt + (n : Int) = 25) → (0 ≤ ix.toInt ∧ ix.toInt ≤ 24) → (btL (saB bk) sz st n ix q = btL (saB bk) sz st 25 0 0) → lv_has ls 4 [(0, .ref x0), (1, .int st), (2, .int q), (3, .int ix)] → W p l e ({ frames := 3, cells := 0, slots := 0, locals := 64 } : Room) s m ([.ref x0, .int st] : List Value).toArray below meth c s.heap [] 0 0 Q (F0 m 4 ls []) := by
    intro n
    induction n with
    | zero =>
      intro q ix ls hn hi hF hl
      exact absurd hn (by omega)
    | succ n ih =>
      intro q ix ls hn hi hF hl
      refine lv_iload_n hx hb d_M_blocksThatAre_4 rfl (lv_at hl 3 rfl) ?_
      refine lv_aload_n hx hb d_M_blocksThatAre_5 rfl (lv_at hl 0 rfl) ?_
      refine va_get (ci := 3) (v := .ref a0) (C := R_M) (T := T_M) (N := 10) hx hb ht in_M hown hK.1 hP 0 rfl rfl 1 (by decide) (ht _ k_fl_M_12) (fun _ h9 => h9) rfl d_M_blocksThatAre_6 ?_
      refine goRi (va_runV (As := []) (rest := [.int ix]) ⟨hx, hb, hml, hown, hts⟩ (c_A_size l D cI cL cO a0 d0 sz mo) (cwV 0 hts (gBIG (m4 k_ml_M_46 k_im_A_size k_sel_A_size k_ini_A) k_co_A_size) rfl rfl rfl (by decide +kernel) ⟨Nat.le_of_ble_eq_true rfl, Nat.le_of_ble_eq_true rfl⟩) ⟨PR.bl, va_recv hK.1 ((P_app.mp (P_app.mp hP).2).1) (ci := 4) (q0 := 0) rfl rfl, PR.pre ((P_app.mp (P_app.mp hP).2).1) hK⟩ rfl rfl hl.1 rfl (lv_room (Nat.le_of_ble_eq_true rfl)) d_M_blocksThatAre_9 ⟨Nat.le_of_ble_eq_true rfl, Nat.le_of_ble_eq_true rfl⟩) ?_
      refine lv_icmp_ge (tgt := 42) hx hb d_M_blocksThatAre_12 (by decide) (fun c_12 => ?_) (fun c_12 => ?_)
      · refine lv_iload_n hx hb d_M_blocksThatAre_42 rfl (lv_at hl 2 rfl) ?_
        rw [hQ]; exact retRi hx hb hr hlocks (by rw [← hF]; simp only [btL, if_pos c_12]) d_M_blocksThatAre_43
      · have hix := ix_lt hsz hnb hi c_12
        have hP := P_perm ((((pool_foc0 cI bk hix).append_left _).append_left _).append_left _) hP
        obtain ⟨⟨⟨h0, q1, q2, q3, q4, q5⟩, ⟨o, f, ee, t, b⟩, ic, bc, sa, gn⟩, hzb⟩ : ∃ z, bk ix.toNatClampNeg = z := ⟨_, rfl⟩
        rw [hzb] at hP
        have hr1 : rf ix.toNatClampNeg = some h0 := by rw [hrf _ hix, hzb]
        have hsa : saB bk ix.toNatClampNeg = sa := by simp only [saB, hzb]
        have hP : va_P D vwCl ((wX x0 lim a0 k0 u0 v0 t1 gen wrg rns als) ++ ((wH a0 d0 sz mo) ++ ((wR cO d0 cap rf) ++ ((wB cI h0 q1 q2 q3 q4 q5 o f ee t b ic bc sa gn) ++ restW cI bk nb ix.toNatClampNeg)))) s.heap := hP
        refine lv_aload_n hx hb d_M_blocksThatAre_15 rfl (lv_at hl 0 rfl) ?_
        refine va_get (ci := 3) (v := .ref a0) (C := R_M) (T := T_M) (N := 10) hx hb ht in_M hown hK.1 hP 0 rfl rfl 1 (by decide) (ht _ k_fl_M_12) (fun _ h9 => h9) rfl d_M_blocksThatAre_16 ?_
        refine lv_iload_n hx hb d_M_blocksThatAre_19 rfl (lv_at hl 3 rfl) ?_
        refine goRv (va_runV (As := [.int ix]) (rest := []) ⟨hx, hb, hml, hown, hts⟩ (c_A_get l D cI cL cO a0 d0 sz mo cap rf ix h0 (nn_of hi.1) (Int32.not_le.mp c_12) (ix_in hi hix hcap) hr1) (cwV 1 hts (gBIG (m4 k_ml_M_134 k_im_A_get k_sel_A_get k_ini_A) k_co_A_get) rfl rfl rfl (by decide +kernel) ⟨Nat.le_of_ble_eq_true rfl, Nat.le_of_ble_eq_true rfl⟩) ⟨PR.bl, va_recv hK.1 (P_app.mpr ⟨(P_app.mp (P_app.mp hP).2).1, (P_app.mp (P_app.mp (P_app.mp hP).2).2).1⟩) (ci := 4) (q0 := 0) rfl rfl, PR.pre (P_app.mpr ⟨(P_app.mp (P_app.mp hP).2).1, (P_app.mp (P_app.mp (P_app.mp hP).2).2).1⟩) hK⟩ rfl rfl hl.1 rfl (lv_room (Nat.le_of_ble_eq_true rfl)) d_M_blocksThatAre_20 ⟨Nat.le_of_ble_eq_true rfl, Nat.le_of_ble_eq_true rfl⟩) ?_
        refine va_castY (C := R_B) hx hb hown (ht _ k_cl_M_57) (hK.2 _ n_ca_BB) (va_recv hK.1 (P_app.mp (P_app.mp (P_app.mp (P_app.mp hP).2).2).2).1 (ci := 0) (q0 := 0) rfl rfl) d_M_blocksThatAre_23 ?_
        refine va_getN (ci := 0) (v := .int sa) (C := R_B) (T := T_B) (N := 9) hx hb ht in_B hown hK.1 hP 3 rfl rfl 7 (by decide) (va_Nw.use rfl (hK.2 _ n_fl_M_100)) (fun _ h9 => h9) rfl d_M_blocksThatAre_26 ?_
        refine lv_iload_n hx hb d_M_blocksThatAre_29 rfl (lv_at hl 1 rfl) ?_
        refine lv_icmp_ne (tgt := 36) hx hb d_M_blocksThatAre_30 (by decide) (fun c_30 => ?_) (fun c_30 => ?_)
        · refine lv_iinc (v := ix + 1) (lv' := [(3, .int (ix + 1)), (0, .ref x0), (1, .int st), (2, .int q)]) hx hb d_M_blocksThatAre_36 hl (k := 3) rfl rfl (by decide) rfl (fun ls hl => ?_)
          refine lv_goto (tgt := 4) hx hb d_M_blocksThatAre_39 (by decide) ?_
          exact ih q (ix + 1) ls (by rw [i32_1 (by omega)]; omega) (by have := sz_24 hsz hnb hi c_12; rw [i32_1 (by omega)]; omega) (by rw [← hF]; simp only [btL, hsa, if_neg c_12, if_neg c_30]) (lv_sub hl [1, 2, 3, 0] rfl)
        · refine lv_iinc (v := q + 1) (lv' := [(2, .int (q + 1)), (0, .ref x0), (1, .int st), (3, .int ix)]) hx hb d_M_blocksThatAre_33 hl (k := 2) rfl rfl (by decide) rfl (fun ls hl => ?_)
          refine lv_iinc (v := ix + 1) (lv' := [(3, .int (ix + 1)), (2, .int (q + 1)), (0, .ref x0), (1, .int st)]) hx hb d_M_blocksThatAre_36 hl (k := 3) rfl rfl (by decide) rfl (fun ls hl => ?_)
          refine lv_goto (tgt := 4) hx hb d_M_blocksThatAre_39 (by decide) ?_
          exact ih (q + 1) (ix + 1) ls (by rw [i32_1 (by omega)]; omega) (by have := sz_24 hsz hnb hi c_12; rw [i32_1 (by omega)]; omega) (by rw [← hF]; simp only [btL, hsa, if_neg c_12, if_pos c_30]) (lv_sub hl [2, 3, 1, 0] rfl)
  exact lp 25 0 0 ls (by decide) (by decide) rfl (lv_sub hl [2, 3, 1, 0] rfl)

abbrev w_M_count : List Cond := .code y_M_count b_M_count 2 (some .int) :: BIG
set_option maxHeartbeats 1000000 in
set_option maxRecDepth 100000 in
theorem c_M_count (l : Launch) (D : va_G) (cI cL cO : ClassId) (x0 : Nat) (lim : Int32) (a0 : Nat) (k0 : Nat) (u0 : Nat) (v0 : Nat) (t1 : Nat) (gen : Int32) (wrg : Int32) (rns : Int32) (als : Int32) (d0 : Nat) (sz : Int32) (mo : Int32) (cap : Nat) (rf : Nat → Option Nat) (bk : Nat → BK) (nb : Nat) (w : Int32) (hsz : sz = nI nb) (hnb : nb ≤ 24) (hcap : nb ≤ cap) (hrf : ∀ j, j < nb → rf j = some (bk j).1.1) : CRi l y_M_count w_M_count ({ frames := 4, cells := 0, slots := 0, locals := 87 }) D cI cL cO [.ref x0, .int w] ((wX x0 lim a0 k0 u0 v0 t1 gen wrg rns als) ++ ((wH a0 d0 sz mo) ++ ((wR cO d0 cap rf) ++ (poolW cI bk nb)))) (ctM w sz gen lim wrg rns als (saB bk)) := by
  refine ofR (cc := b_M_count) (maxL := 2) (ret := (some .int)) (by decide) rfl (Nat.le_of_ble_eq_true rfl) ?_
  intro p e s m below meth c ls Q hQ hx hb hr hlocks hts hown hml hP hK hl
  have hl : lv_has ls 2 [(0, .ref x0), (1, .int w)] := hl
  have hown : s.vm.findClass R_M = some m.cls := hown
  have ht : ∀ w ∈ BIG, w.before _ s = true := fun w h => hts w (List.mem_cons_of_mem _ h)
  refine lv_iload_n hx hb d_M_count_0 rfl (lv_at hl 1 rfl) ?_
  by_cases c_1_0 : w = 0
  · refine lv_tableIn (off := 51) (tgt := 52) hx hb d_M_count_1 (by rw [c_1_0]; decide) (by rw [c_1_0]; decide) (by rw [c_1_0] <;> rfl) (by decide) ?_
    refine lv_aload_n hx hb d_M_count_52 rfl (lv_at hl 0 rfl) ?_
    refine va_get (ci := 3) (v := .ref a0) (C := R_M) (T := T_M) (N := 10) hx hb ht in_M hown hK.1 hP 0 rfl rfl 1 (by decide) (ht _ k_fl_M_12) (fun _ h9 => h9) rfl d_M_count_53 ?_
    refine goRi (va_runV (As := []) (rest := []) ⟨hx, hb, hml, hown, hts⟩ (c_A_size l D cI cL cO a0 d0 sz mo) (cwV 0 hts (gBIG (m4 k_ml_M_46 k_im_A_size k_sel_A_size k_ini_A) k_co_A_size) rfl rfl rfl (by decide +kernel) ⟨Nat.le_of_ble_eq_true rfl, Nat.le_of_ble_eq_true rfl⟩) ⟨PR.bl, va_recv hK.1 ((P_app.mp (P_app.mp hP).2).1) (ci := 4) (q0 := 0) rfl rfl, PR.pre ((P_app.mp (P_app.mp hP).2).1) hK⟩ rfl rfl hl.1 rfl (lv_room (Nat.le_of_ble_eq_true rfl)) d_M_count_56 ⟨Nat.le_of_ble_eq_true rfl, Nat.le_of_ble_eq_true rfl⟩) ?_
    rw [hQ]; exact retRi hx hb hr hlocks (by first | (simp only [ctM, if_pos c_1_0]; done) | simp [ctM, c_1_0]) d_M_count_59
  by_cases c_1_1 : w = 1
  · refine lv_tableIn (off := 59) (tgt := 60) hx hb d_M_count_1 (by rw [c_1_1]; decide) (by rw [c_1_1]; decide) (by rw [c_1_1] <;> rfl) (by decide) ?_
    refine lv_aload_n hx hb d_M_count_60 rfl (lv_at hl 0 rfl) ?_
    refine va_get (ci := 3) (v := .int gen) (C := R_M) (T := T_M) (N := 10) hx hb ht in_M hown hK.1 hP 0 rfl rfl 6 (by decide) (ht _ k_fl_M_103) (fun _ h9 => h9) rfl d_M_count_61 ?_
    rw [hQ]; exact retRi hx hb hr hlocks (by first | (simp only [ctM, if_neg c_1_0, if_pos c_1_1]; done) | simp [ctM, c_1_0, c_1_1]) d_M_count_64
  by_cases c_1_2 : w = 2
  · refine lv_tableIn (off := 64) (tgt := 65) hx hb d_M_count_1 (by rw [c_1_2]; decide) (by rw [c_1_2]; decide) (by rw [c_1_2] <;> rfl) (by decide) ?_
    refine lv_aload_n hx hb d_M_count_65 rfl (lv_at hl 0 rfl) ?_
    refine goRi (va_runV (As := []) (rest := []) ⟨hx, hb, hml, hown, hts⟩ (c_M_oldestGeneration l D cI cL cO x0 lim a0 k0 u0 v0 t1 gen wrg rns als) (cwV 0 hts (gBIG (m4 k_ml_M_143 k_im_M_oldestGeneration k_sel_M_oldestGeneration k_ini_M) k_co_M_oldestGeneration) rfl rfl rfl (by decide +kernel) ⟨Nat.le_of_ble_eq_true rfl, Nat.le_of_ble_eq_true rfl⟩) ⟨PR.bl, va_recv hK.1 ((P_app.mp hP).1) (ci := 3) (q0 := 0) rfl rfl, PR.pre ((P_app.mp hP).1) hK⟩ rfl rfl hl.1 rfl (lv_room (Nat.le_of_ble_eq_true rfl)) d_M_count_66 ⟨Nat.le_of_ble_eq_true rfl, Nat.le_of_ble_eq_true rfl⟩) ?_
    rw [hQ]; exact retRi hx hb hr hlocks (by first | (simp only [ctM, if_neg c_1_0, if_neg c_1_1, if_pos c_1_2]; done) | simp [ctM, c_1_0, c_1_1, c_1_2]) d_M_count_69
  by_cases c_1_3 : w = 3
  · refine lv_tableIn (off := 69) (tgt := 70) hx hb d_M_count_1 (by rw [c_1_3]; decide) (by rw [c_1_3]; decide) (by rw [c_1_3] <;> rfl) (by decide) ?_
    refine lv_aload_n hx hb d_M_count_70 rfl (lv_at hl 0 rfl) ?_
    refine lv_iconst (v := 2) hx hb d_M_count_71 (by decide) ?_
    refine goRi (va_runV (As := [.int 2]) (rest := []) ⟨hx, hb, hml, hown, hts⟩ (c_M_blocksThatAre l D cI cL cO x0 lim a0 k0 u0 v0 t1 gen wrg rns als d0 sz mo cap rf bk nb 2 (by assumption) (by assumption) (by assumption) (by assumption)) (cwV 1 hts (gBIG (m4 k_ml_M_184 k_im_M_blocksThatAre k_sel_M_blocksThatAre k_ini_M) k_co_M_blocksThatAre) rfl rfl rfl (by decide +kernel) ⟨Nat.le_of_ble_eq_true rfl, Nat.le_of_ble_eq_true rfl⟩) ⟨PR.bl, va_recv hK.1 (P_app.mpr ⟨(P_app.mp hP).1, (P_app.mpr ⟨(P_app.mp (P_app.mp hP).2).1, (P_app.mpr ⟨(P_app.mp (P_app.mp (P_app.mp hP).2).2).1, (P_app.mp (P_app.mp (P_app.mp hP).2).2).2⟩)⟩)⟩) (ci := 3) (q0 := 0) rfl rfl, PR.pre (P_app.mpr ⟨(P_app.mp hP).1, (P_app.mpr ⟨(P_app.mp (P_app.mp hP).2).1, (P_app.mpr ⟨(P_app.mp (P_app.mp (P_app.mp hP).2).2).1, (P_app.mp (P_app.mp (P_app.mp hP).2).2).2⟩)⟩)⟩) hK⟩ rfl rfl hl.1 rfl (lv_room (Nat.le_of_ble_eq_true rfl)) d_M_count_72 ⟨Nat.le_of_ble_eq_true rfl, Nat.le_of_ble_eq_true rfl⟩) ?_
    rw [hQ]; exact retRi hx hb hr hlocks (by first | (simp only [ctM, if_neg c_1_0, if_neg c_1_1, if_neg c_1_2, if_pos c_1_3]; done) | simp [ctM, c_1_0, c_1_1, c_1_2, c_1_3]) d_M_count_75
  by_cases c_1_4 : w = 4
  · refine lv_tableIn (off := 75) (tgt := 76) hx hb d_M_count_1 (by rw [c_1_4]; decide) (by rw [c_1_4]; decide) (by rw [c_1_4] <;> rfl) (by decide) ?_
    refine lv_aload_n hx hb d_M_count_76 rfl (lv_at hl 0 rfl) ?_
    refine lv_iconst (v := 1) hx hb d_M_count_77 (by decide) ?_
    refine goRi (va_runV (As := [.int 1]) (rest := []) ⟨hx, hb, hml, hown, hts⟩ (c_M_blocksThatAre l D cI cL cO x0 lim a0 k0 u0 v0 t1 gen wrg rns als d0 sz mo cap rf bk nb 1 (by assumption) (by assumption) (by assumption) (by assumption)) (cwV 1 hts (gBIG (m4 k_ml_M_184 k_im_M_blocksThatAre k_sel_M_blocksThatAre k_ini_M) k_co_M_blocksThatAre) rfl rfl rfl (by decide +kernel) ⟨Nat.le_of_ble_eq_true rfl, Nat.le_of_ble_eq_true rfl⟩) ⟨PR.bl, va_recv hK.1 (P_app.mpr ⟨(P_app.mp hP).1, (P_app.mpr ⟨(P_app.mp (P_app.mp hP).2).1, (P_app.mpr ⟨(P_app.mp (P_app.mp (P_app.mp hP).2).2).1, (P_app.mp (P_app.mp (P_app.mp hP).2).2).2⟩)⟩)⟩) (ci := 3) (q0 := 0) rfl rfl, PR.pre (P_app.mpr ⟨(P_app.mp hP).1, (P_app.mpr ⟨(P_app.mp (P_app.mp hP).2).1, (P_app.mpr ⟨(P_app.mp (P_app.mp (P_app.mp hP).2).2).1, (P_app.mp (P_app.mp (P_app.mp hP).2).2).2⟩)⟩)⟩) hK⟩ rfl rfl hl.1 rfl (lv_room (Nat.le_of_ble_eq_true rfl)) d_M_count_78 ⟨Nat.le_of_ble_eq_true rfl, Nat.le_of_ble_eq_true rfl⟩) ?_
    rw [hQ]; exact retRi hx hb hr hlocks (by first | (simp only [ctM, if_neg c_1_0, if_neg c_1_1, if_neg c_1_2, if_neg c_1_3, if_pos c_1_4]; done) | simp [ctM, c_1_0, c_1_1, c_1_2, c_1_3, c_1_4]) d_M_count_81
  by_cases c_1_5 : w = 5
  · refine lv_tableIn (off := 81) (tgt := 82) hx hb d_M_count_1 (by rw [c_1_5]; decide) (by rw [c_1_5]; decide) (by rw [c_1_5] <;> rfl) (by decide) ?_
    refine lv_aload_n hx hb d_M_count_82 rfl (lv_at hl 0 rfl) ?_
    refine va_get (ci := 3) (v := .int wrg) (C := R_M) (T := T_M) (N := 10) hx hb ht in_M hown hK.1 hP 0 rfl rfl 7 (by decide) (ht _ k_fl_M_138) (fun _ h9 => h9) rfl d_M_count_83 ?_
    rw [hQ]; exact retRi hx hb hr hlocks (by first | (simp only [ctM, if_neg c_1_0, if_neg c_1_1, if_neg c_1_2, if_neg c_1_3, if_neg c_1_4, if_pos c_1_5]; done) | simp [ctM, c_1_0, c_1_1, c_1_2, c_1_3, c_1_4, c_1_5]) d_M_count_86
  by_cases c_1_6 : w = 6
  · refine lv_tableIn (off := 86) (tgt := 87) hx hb d_M_count_1 (by rw [c_1_6]; decide) (by rw [c_1_6]; decide) (by rw [c_1_6] <;> rfl) (by decide) ?_
    refine lv_aload_n hx hb d_M_count_87 rfl (lv_at hl 0 rfl) ?_
    refine va_get (ci := 3) (v := .int rns) (C := R_M) (T := T_M) (N := 10) hx hb ht in_M hown hK.1 hP 0 rfl rfl 8 (by decide) (ht _ k_fl_M_153) (fun _ h9 => h9) rfl d_M_count_88 ?_
    rw [hQ]; exact retRi hx hb hr hlocks (by first | (simp only [ctM, if_neg c_1_0, if_neg c_1_1, if_neg c_1_2, if_neg c_1_3, if_neg c_1_4, if_neg c_1_5, if_pos c_1_6]; done) | simp [ctM, c_1_0, c_1_1, c_1_2, c_1_3, c_1_4, c_1_5, c_1_6]) d_M_count_91
  by_cases c_1_7 : w = 7
  · refine lv_tableIn (off := 91) (tgt := 92) hx hb d_M_count_1 (by rw [c_1_7]; decide) (by rw [c_1_7]; decide) (by rw [c_1_7] <;> rfl) (by decide) ?_
    refine lv_aload_n hx hb d_M_count_92 rfl (lv_at hl 0 rfl) ?_
    refine va_get (ci := 3) (v := .int als) (C := R_M) (T := T_M) (N := 10) hx hb ht in_M hown hK.1 hP 0 rfl rfl 9 (by decide) (ht _ k_fl_M_156) (fun _ h9 => h9) rfl d_M_count_93 ?_
    rw [hQ]; exact retRi hx hb hr hlocks (by first | (simp only [ctM, if_neg c_1_0, if_neg c_1_1, if_neg c_1_2, if_neg c_1_3, if_neg c_1_4, if_neg c_1_5, if_neg c_1_6, if_pos c_1_7]; done) | simp [ctM, c_1_0, c_1_1, c_1_2, c_1_3, c_1_4, c_1_5, c_1_6, c_1_7]) d_M_count_96
  by_cases c_1_8 : w = 8
  · refine lv_tableIn (off := 96) (tgt := 97) hx hb d_M_count_1 (by rw [c_1_8]; decide) (by rw [c_1_8]; decide) (by rw [c_1_8] <;> rfl) (by decide) ?_
    refine lv_aload_n hx hb d_M_count_97 rfl (lv_at hl 0 rfl) ?_
    refine va_get (ci := 3) (v := .int lim) (C := R_M) (T := T_M) (N := 10) hx hb ht in_M hown hK.1 hP 0 rfl rfl 0 (by decide) (ht _ k_fl_M_42) (fun _ h9 => h9) rfl d_M_count_98 ?_
    rw [hQ]; exact retRi hx hb hr hlocks (by first | (simp only [ctM, if_neg c_1_0, if_neg c_1_1, if_neg c_1_2, if_neg c_1_3, if_neg c_1_4, if_neg c_1_5, if_neg c_1_6, if_neg c_1_7, if_pos c_1_8]; done) | simp [ctM, c_1_0, c_1_1, c_1_2, c_1_3, c_1_4, c_1_5, c_1_6, c_1_7, c_1_8]) d_M_count_101
  refine lv_tableOut (tgt := 102) hx hb d_M_count_1 (by have := lv_neT c_1_0 (show (0 : Int32).toInt = 0 by decide); have := lv_neT c_1_1 (show (1 : Int32).toInt = 1 by decide); have := lv_neT c_1_2 (show (2 : Int32).toInt = 2 by decide); have := lv_neT c_1_3 (show (3 : Int32).toInt = 3 by decide); have := lv_neT c_1_4 (show (4 : Int32).toInt = 4 by decide); have := lv_neT c_1_5 (show (5 : Int32).toInt = 5 by decide); have := lv_neT c_1_6 (show (6 : Int32).toInt = 6 by decide); have := lv_neT c_1_7 (show (7 : Int32).toInt = 7 by decide); have := lv_neT c_1_8 (show (8 : Int32).toInt = 8 by decide); omega) (by decide) ?_
  refine lv_iconst (v := (-1)) hx hb d_M_count_102 (by decide) ?_
  rw [hQ]; exact retRi hx hb hr hlocks (by first | (simp only [ctM, if_neg c_1_0, if_neg c_1_1, if_neg c_1_2, if_neg c_1_3, if_neg c_1_4, if_neg c_1_5, if_neg c_1_6, if_neg c_1_7, if_neg c_1_8]; done) | simp [ctM, c_1_0, c_1_1, c_1_2, c_1_3, c_1_4, c_1_5, c_1_6, c_1_7, c_1_8]) d_M_count_103

abbrev w_M_border : List Cond := .code y_M_border b_M_border 4 (some .int) :: BIG
set_option maxHeartbeats 1000000 in
set_option maxRecDepth 100000 in
theorem c_M_border (l : Launch) (D : va_G) (cI cL cO : ClassId) (x0 : Nat) (lim : Int32) (a0 : Nat) (k0 : Nat) (u0 : Nat) (v0 : Nat) (t1 : Nat) (gen : Int32) (wrg : Int32) (rns : Int32) (als : Int32) (d0 : Nat) (sz : Int32) (mo : Int32) (cap : Nat) (rf : Nat → Option Nat) (k1 : Nat) (dd : Fn) (bk : Nat → BK) (nb : Nat) (fr : va_W) (hsz : sz = nI nb) (hnb : nb ≤ 24) (hcap : nb ≤ cap) (hrf : ∀ j, j < nb → rf j = some (bk j).1.1) : CMi l y_M_border w_M_border ({ frames := 5, cells := 0, slots := 0, locals := 112 }) D cI cL cO [.ref x0] ((wX x0 lim a0 k0 u0 v0 t1 gen wrg rns als) ++ ((wH a0 d0 sz mo) ++ ((wR cO d0 cap rf) ++ ((wK k0 k1) ++ ((wI3 cI k1 dd) ++ ((poolW cI bk nb) ++ fr)))))) (fun (r : Int32) (u : Int32 × Fn × (Nat → BK)) => (r, u.1, u.2.2) = bdL sz 25 0 0 wrg bk) (fun u : Int32 × Fn × (Nat → BK) => ((wX x0 lim a0 k0 u0 v0 t1 gen u.1 rns als) ++ ((wH a0 d0 sz mo) ++ ((wR cO d0 cap rf) ++ ((wK k0 k1) ++ ((wI3 cI k1 u.2.1) ++ ((poolW cI u.2.2 nb) ++ fr))))))) 0 0 := by
  refine ofMi (cc := b_M_border) (maxL := 4) (ret := (some .int)) (by decide) rfl (Nat.le_of_ble_eq_true rfl) ?_
  intro p e s m below meth c A ls H Q hQ hx hb hr hlocks hin hts hown hml hP hK hD hS hA hl
  have hl : lv_has ls 4 [(0, .ref x0)] := hl
  have hown : s.vm.findClass R_M = some m.cls := hown
  have ht : ∀ w ∈ BIG, w.before _ s = true := fun w h => hts w (List.mem_cons_of_mem _ h)
  refine lv_iconst (v := 0) hx hb d_M_border_0 (by decide) ?_
  refine lv_istore_n (lv' := [(1, .int 0), (0, .ref x0)]) hx hb d_M_border_1 rfl hl (by decide) rfl (fun ls hl => ?_)
  refine lv_iconst (v := 0) hx hb d_M_border_2 (by decide) ?_
  refine lv_istore_n (lv' := [(2, .int 0), (1, .int 0), (0, .ref x0)]) hx hb d_M_border_3 rfl hl (by decide) rfl (fun ls hl => ?_)
  have lp : ∀ (n : Nat) (q : Int32) (ix : Int32) (w1 : Int32) (d1 : Fn) (bk1 : Nat → BK) (H : Heap) (locs : List Loc) (ls : Array Slot), (ix.toInt + (n : Int) = 25) → (0 ≤ ix.toInt ∧ ix.toInt ≤ 24) → (∀ j, j < nb → rf j = some (bk1 j).1.1) → (bdL sz n ix q w1 bk1 = bdL sz 25 0 0 wrg bk) → va_P D vwCl ((wX x0 lim a0 k0 u0 v0 t1 gen w1 rns als) ++ ((wH a0 d0 sz mo) ++ ((wR cO d0 cap rf) ++ ((wK k0 k1) ++ ((wI3 cI k1 d1) ++ ((poolW cI bk1 nb) ++ fr)))))) H → va_D A ((wX x0 lim a0 k0 u0 v0 t1 gen w1 rns als) ++ ((wH a0 d0 sz mo) ++ ((wR cO d0 cap rf) ++ ((wK k0 k1) ++ ((wI3 cI k1 d1) ++ ((poolW cI bk1 nb) ++ fr)))))) → va_S A s.heap H locs → lv_has ls 4 [(0, .ref x0), (1, .int q), (2, .int ix)] → W p l e ({ frames := 5, cells := 0, slots := 0, locals := 112 } : Room) s m ([.ref x0] : List Value).toArray below meth c H locs 0 0 Q (F0 m 4 ls []) := by
    intro n
    induction n with
    | zero =>
      intro q ix w1 d1 bk1 H locs ls hn hi hrf1 hF hP hD hS hl
      exact absurd hn (by omega)
    | succ n ih =>
      intro q ix w1 d1 bk1 H locs ls hn hi hrf1 hF hP hD hS hl
      refine lv_iload_n hx hb d_M_border_4 rfl (lv_at hl 2 rfl) ?_
      refine lv_aload_n hx hb d_M_border_5 rfl (lv_at hl 0 rfl) ?_
      refine va_get (ci := 3) (v := .ref a0) (C := R_M) (T := T_M) (N := 10) hx hb ht in_M hown hK.1 hP 0 rfl rfl 1 (by decide) (ht _ k_fl_M_12) (fun _ h9 => h9) rfl d_M_border_6 ?_
      refine goRi (va_runV (As := []) (rest := [.int ix]) ⟨hx, hb, hml, hown, hts⟩ (c_A_size l D cI cL cO a0 d0 sz mo) (cwV 0 hts (gBIG (m4 k_ml_M_46 k_im_A_size k_sel_A_size k_ini_A) k_co_A_size) rfl rfl rfl (by decide +kernel) ⟨Nat.le_of_ble_eq_true rfl, Nat.le_of_ble_eq_true rfl⟩) ⟨PR.bl, va_recv hK.1 ((P_app.mp (P_app.mp hP).2).1) (ci := 4) (q0 := 0) rfl rfl, PR.pre ((P_app.mp (P_app.mp hP).2).1) hK⟩ rfl rfl hl.1 rfl (lv_room (Nat.le_of_ble_eq_true rfl)) d_M_border_9 ⟨Nat.le_of_ble_eq_true rfl, Nat.le_of_ble_eq_true rfl⟩) ?_
      refine lv_icmp_ge (tgt := 80) hx hb d_M_border_12 (by decide) (fun c_12 => ?_) (fun c_12 => ?_)
      · refine lv_iload_n hx hb d_M_border_80 rfl (lv_at hl 1 rfl) ?_
        rw [hQ]; exact retMi (w1 := fun u : Int32 × Fn × (Nat → BK) => ((wX x0 lim a0 k0 u0 v0 t1 gen u.1 rns als) ++ ((wH a0 d0 sz mo) ++ ((wR cO d0 cap rf) ++ ((wK k0 k1) ++ ((wI3 cI k1 u.2.1) ++ ((poolW cI u.2.2 nb) ++ fr))))))) (w1, d1, bk1) hx hb hr hlocks hP hD hS (by rw [← hF]; simp only [bdL, if_pos c_12]) d_M_border_81
      · have hix := ix_lt hsz hnb hi c_12
        have hP := P_perm ((((((pool_foc cI bk1 hix fr).append_left _).append_left _).append_left _).append_left _).append_left _) hP
        have hD := D_perm ((((((pool_foc cI bk1 hix fr).append_left _).append_left _).append_left _).append_left _).append_left _) hD
        obtain ⟨⟨⟨h0, q1, q2, q3, q4, q5⟩, ⟨o, f, ee, t, b⟩, ic, bc, sa, gn⟩, hzb⟩ : ∃ z, bk1 ix.toNatClampNeg = z := ⟨_, rfl⟩
        rw [hzb] at hP hD
        have hr1 : rf ix.toNatClampNeg = some h0 := by rw [hrf1 _ hix, hzb]
        have hsa : saB bk1 ix.toNatClampNeg = sa := by simp only [saB, hzb]
        have hP : va_P D vwCl ((wX x0 lim a0 k0 u0 v0 t1 gen w1 rns als) ++ ((wH a0 d0 sz mo) ++ ((wR cO d0 cap rf) ++ ((wK k0 k1) ++ ((wI3 cI k1 d1) ++ ((wB cI h0 q1 q2 q3 q4 q5 o f ee t b ic bc sa gn) ++ (restW cI bk1 nb ix.toNatClampNeg ++ fr))))))) H := hP
        have hD : va_D A ((wX x0 lim a0 k0 u0 v0 t1 gen w1 rns als) ++ ((wH a0 d0 sz mo) ++ ((wR cO d0 cap rf) ++ ((wK k0 k1) ++ ((wI3 cI k1 d1) ++ ((wB cI h0 q1 q2 q3 q4 q5 o f ee t b ic bc sa gn) ++ (restW cI bk1 nb ix.toNatClampNeg ++ fr))))))) := hD
        have hby : byB bk1 ix.toNatClampNeg = b := by simp only [byB, hzb]
        have hbc : bcB bk1 ix.toNatClampNeg = bc := by simp only [bcB, hzb]
        refine lv_aload_n hx hb d_M_border_15 rfl (lv_at hl 0 rfl) ?_
        refine va_get (ci := 3) (v := .ref a0) (C := R_M) (T := T_M) (N := 10) hx hb ht in_M hown hK.1 hP 0 rfl rfl 1 (by decide) (ht _ k_fl_M_12) (fun _ h9 => h9) rfl d_M_border_16 ?_
        refine lv_iload_n hx hb d_M_border_19 rfl (lv_at hl 2 rfl) ?_
        refine goRv (va_runV (As := [.int ix]) (rest := []) ⟨hx, hb, hml, hown, hts⟩ (c_A_get l D cI cL cO a0 d0 sz mo cap rf ix h0 (nn_of hi.1) (Int32.not_le.mp c_12) (ix_in hi hix hcap) hr1) (cwV 1 hts (gBIG (m4 k_ml_M_134 k_im_A_get k_sel_A_get k_ini_A) k_co_A_get) rfl rfl rfl (by decide +kernel) ⟨Nat.le_of_ble_eq_true rfl, Nat.le_of_ble_eq_true rfl⟩) ⟨PR.bl, va_recv hK.1 (P_app.mpr ⟨(P_app.mp (P_app.mp hP).2).1, (P_app.mp (P_app.mp (P_app.mp hP).2).2).1⟩) (ci := 4) (q0 := 0) rfl rfl, PR.pre (P_app.mpr ⟨(P_app.mp (P_app.mp hP).2).1, (P_app.mp (P_app.mp (P_app.mp hP).2).2).1⟩) hK⟩ rfl rfl hl.1 rfl (lv_room (Nat.le_of_ble_eq_true rfl)) d_M_border_20 ⟨Nat.le_of_ble_eq_true rfl, Nat.le_of_ble_eq_true rfl⟩) ?_
        refine va_castY (C := R_B) hx hb hown (ht _ k_cl_M_57) (hK.2 _ n_ca_BB) (va_recv hK.1 (P_app.mp (P_app.mp (P_app.mp (P_app.mp (P_app.mp (P_app.mp hP).2).2).2).2).2).1 (ci := 0) (q0 := 0) rfl rfl) d_M_border_23 ?_
        refine lv_astore_n (lv' := [(3, .ref h0), (0, .ref x0), (1, .int q), (2, .int ix)]) hx hb d_M_border_26 rfl hl (by decide) rfl (fun ls hl => ?_)
        refine lv_aload_n hx hb d_M_border_27 rfl (lv_at hl 0 rfl) ?_
        refine va_getN (ci := 0) (v := .int sa) (C := R_B) (T := T_B) (N := 9) hx hb ht in_B hown hK.1 hP 5 rfl rfl 7 (by decide) (va_Nw.use rfl (hK.2 _ n_fl_M_100)) (fun _ h9 => h9) rfl d_M_border_28 ?_
        refine lv_iconst (v := 1) hx hb d_M_border_31 (by decide) ?_
        refine lv_icmp_eq (tgt := 38) hx hb d_M_border_32 (by decide) (fun c_32 => ?_) (fun c_32 => ?_)
        · refine lv_aload_n hx hb d_M_border_38 rfl (lv_at hl 1 rfl) ?_
          refine va_get (ci := 3) (v := .ref k0) (C := R_M) (T := T_M) (N := 10) hx hb ht in_M hown hK.1 hP 0 rfl rfl 2 (by decide) (ht _ k_fl_M_19) (fun _ h9 => h9) rfl d_M_border_39 ?_
          refine lv_aload_n hx hb d_M_border_42 rfl (lv_at hl 0 rfl) ?_
          have hP := P_sw2 hP
          have hD := D_sw2 hD
          have hP := P_sw1 hP
          have hD := D_sw1 hD
          have hP := P_sw hP
          have hD := D_sw hD
          have hP := P_sw3 hP
          have hD := D_sw3 hD
          have hP := P_sw2 hP
          have hD := D_sw2 hD
          have hP := P_sw1 hP
          have hD := D_sw1 hD
          have hP := P_sw4 hP
          have hD := D_sw4 hD
          have hP := P_sw3 hP
          have hD := D_sw3 hD
          have hP := P_sw2 hP
          have hD := D_sw2 hD
          refine goMi (va_runVN (As := [.ref h0]) (rest := []) ⟨hx, hb, hml, hown, hts⟩ (c_K_verdictOn l D cI cL cO k0 k1 d1 h0 q1 q2 q3 q4 q5 o f ee t b ic bc sa gn ((wX x0 lim a0 k0 u0 v0 t1 gen w1 rns als) ++ ((wH a0 d0 sz mo) ++ ((wR cO d0 cap rf) ++ (restW cI bk1 nb ix.toNatClampNeg ++ fr)))) H.size) ⟨va_cnB 1 hts (gB0 k_co_K_verdictOn) rfl rfl rfl (hK.2 _ n_ml_M_130) (ht _ k_ini_K) (by decide +kernel) ⟨Nat.le_of_ble_eq_true rfl, Nat.le_of_ble_eq_true rfl⟩, ht _ k_im_K_verdictOn, ht _ k_sel_K_verdictOn⟩ ⟨PM.bl, va_recv hK.1 hP (ci := 1) (q0 := 0) rfl rfl, PM.pre hP hD hK⟩ rfl rfl hl.1 rfl (lv_room (Nat.le_of_ble_eq_true rfl)) d_M_border_43 ⟨Nat.le_of_ble_eq_true rfl, Nat.le_of_ble_eq_true rfl⟩) hD hS hA (fun r_43 u H locs hw hP hD hS => ?_)
          obtain ⟨dd_43, rfl⟩ : ∃ z, z = u := ⟨_, rfl⟩
          have e_43 : r_43 = vdF b bc ∧ dd_43 = (vcF b bc).2 := hw
          have hP : va_P D vwCl ((wK k0 k1) ++ ((wI3 cI k1 dd_43) ++ ((wB cI h0 q1 q2 q3 q4 q5 o f ee t b ic bc sa gn) ++ ((wX x0 lim a0 k0 u0 v0 t1 gen w1 rns als) ++ ((wH a0 d0 sz mo) ++ ((wR cO d0 cap rf) ++ (restW cI bk1 nb ix.toNatClampNeg ++ fr))))))) H := hP
          have hD : va_D A ((wK k0 k1) ++ ((wI3 cI k1 dd_43) ++ ((wB cI h0 q1 q2 q3 q4 q5 o f ee t b ic bc sa gn) ++ ((wX x0 lim a0 k0 u0 v0 t1 gen w1 rns als) ++ ((wH a0 d0 sz mo) ++ ((wR cO d0 cap rf) ++ (restW cI bk1 nb ix.toNatClampNeg ++ fr))))))) := hD
          have hP := P_sw2 hP
          have hD := D_sw2 hD
          have hP := P_sw3 hP
          have hD := D_sw3 hD
          have hP := P_sw4 hP
          have hD := D_sw4 hD
          have hP := P_sw1 hP
          have hD := D_sw1 hD
          have hP := P_sw2 hP
          have hD := D_sw2 hD
          have hP := P_sw3 hP
          have hD := D_sw3 hD
          have hP := P_sw hP
          have hD := D_sw hD
          have hP := P_sw1 hP
          have hD := D_sw1 hD
          have hP := P_sw2 hP
          have hD := D_sw2 hD
          have hP : va_P D vwCl ((wX x0 lim a0 k0 u0 v0 t1 gen w1 rns als) ++ ((wH a0 d0 sz mo) ++ ((wR cO d0 cap rf) ++ ((wK k0 k1) ++ ((wI3 cI k1 dd_43) ++ ((wB cI h0 q1 q2 q3 q4 q5 o f ee t b ic bc sa gn) ++ (restW cI bk1 nb ix.toNatClampNeg ++ fr))))))) H := hP
          have hD : va_D A ((wX x0 lim a0 k0 u0 v0 t1 gen w1 rns als) ++ ((wH a0 d0 sz mo) ++ ((wR cO d0 cap rf) ++ ((wK k0 k1) ++ ((wI3 cI k1 dd_43) ++ ((wB cI h0 q1 q2 q3 q4 q5 o f ee t b ic bc sa gn) ++ (restW cI bk1 nb ix.toNatClampNeg ++ fr))))))) := hD
          refine lv_if_ne (tgt := 60) hx hb d_M_border_46 (by decide) (fun c_46 => ?_) (fun c_46 => ?_)
          · refine lv_aload_n hx hb d_M_border_60 rfl (lv_at hl 0 rfl) ?_
            have hP := P_sw4 hP
            have hD := D_sw4 hD
            have hP := P_sw3 hP
            have hD := D_sw3 hD
            have hP := P_sw2 hP
            have hD := D_sw2 hD
            have hP := P_sw1 hP
            have hD := D_sw1 hD
            have hP := P_sw hP
            have hD := D_sw hD
            refine goMv (va_runVN (As := []) (rest := []) ⟨hx, hb, hml, hown, hts⟩ (c_B_becomeRows l D cI cL cO h0 q1 q2 q3 q4 q5 o f ee t b ic bc sa gn ((wX x0 lim a0 k0 u0 v0 t1 gen w1 rns als) ++ ((wH a0 d0 sz mo) ++ ((wR cO d0 cap rf) ++ ((wK k0 k1) ++ ((wI3 cI k1 dd_43) ++ (restW cI bk1 nb ix.toNatClampNeg ++ fr)))))) H.size) ⟨va_cnB 0 hts (gB0 k_co_B_becomeRows) rfl rfl rfl (hK.2 _ n_ml_M_90) (ht _ k_ini_B) (by decide +kernel) ⟨Nat.le_of_ble_eq_true rfl, Nat.le_of_ble_eq_true rfl⟩, ht _ k_im_B_becomeRows, ht _ k_sel_B_becomeRows⟩ ⟨PM.bl, va_recv hK.1 hP (ci := 0) (q0 := 0) rfl rfl, PM.pre hP hD hK⟩ rfl rfl hl.1 rfl (lv_room (Nat.le_of_ble_eq_true rfl)) d_M_border_61 ⟨Nat.le_of_ble_eq_true rfl, Nat.le_of_ble_eq_true rfl⟩) hD hS hA (fun u H locs hw hP hD hS => ?_)
            obtain ⟨bc_61, sa_61, gn_61⟩ := u
            have e_61 : (bc_61, sa_61, gn_61) = (0, 0, -1) := hw
            have hP : va_P D vwCl ((wB cI h0 q1 q2 q3 q4 q5 o f ee t b ic bc_61 sa_61 gn_61) ++ ((wX x0 lim a0 k0 u0 v0 t1 gen w1 rns als) ++ ((wH a0 d0 sz mo) ++ ((wR cO d0 cap rf) ++ ((wK k0 k1) ++ ((wI3 cI k1 dd_43) ++ (restW cI bk1 nb ix.toNatClampNeg ++ fr))))))) H := hP
            have hD : va_D A ((wB cI h0 q1 q2 q3 q4 q5 o f ee t b ic bc_61 sa_61 gn_61) ++ ((wX x0 lim a0 k0 u0 v0 t1 gen w1 rns als) ++ ((wH a0 d0 sz mo) ++ ((wR cO d0 cap rf) ++ ((wK k0 k1) ++ ((wI3 cI k1 dd_43) ++ (restW cI bk1 nb ix.toNatClampNeg ++ fr))))))) := hD
            have hP := P_sw hP
            have hD := D_sw hD
            have hP := P_sw1 hP
            have hD := D_sw1 hD
            have hP := P_sw2 hP
            have hD := D_sw2 hD
            have hP := P_sw3 hP
            have hD := D_sw3 hD
            have hP := P_sw4 hP
            have hD := D_sw4 hD
            have hP : va_P D vwCl ((wX x0 lim a0 k0 u0 v0 t1 gen w1 rns als) ++ ((wH a0 d0 sz mo) ++ ((wR cO d0 cap rf) ++ ((wK k0 k1) ++ ((wI3 cI k1 dd_43) ++ ((wB cI h0 q1 q2 q3 q4 q5 o f ee t b ic bc_61 sa_61 gn_61) ++ (restW cI bk1 nb ix.toNatClampNeg ++ fr))))))) H := hP
            have hD : va_D A ((wX x0 lim a0 k0 u0 v0 t1 gen w1 rns als) ++ ((wH a0 d0 sz mo) ++ ((wR cO d0 cap rf) ++ ((wK k0 k1) ++ ((wI3 cI k1 dd_43) ++ ((wB cI h0 q1 q2 q3 q4 q5 o f ee t b ic bc_61 sa_61 gn_61) ++ (restW cI bk1 nb ix.toNatClampNeg ++ fr))))))) := hD
            refine lv_aload_n hx hb d_M_border_64 rfl (lv_at hl 1 rfl) ?_
            refine lv_dup hx hb d_M_border_65 rfl ?_
            refine va_get (ci := 3) (v := .int w1) (C := R_M) (T := T_M) (N := 10) hx hb ht in_M hown hK.1 hP 0 rfl rfl 7 (by decide) (ht _ k_fl_M_138) (fun _ h9 => h9) rfl d_M_border_66 ?_
            refine lv_iconst (v := 1) hx hb d_M_border_69 (by decide) ?_
            refine lv_iadd hx hb d_M_border_70 ?_
            refine va_put (ci := 3) (v := .int (w1 + 1)) (ty := .int) (C := R_M) (T := T_M) (N := 10) hx hb ht in_M t_M t_M_ok n_M hown hK.1 hP hD hS 0 rfl rfl 7 (by decide) (ht _ k_fl_M_138) (fun _ h9 => h9) rfl (by decide +kernel) rfl rfl (Nat.le_of_ble_eq_true rfl) d_M_border_71 (fun H locs hP hD hS => ?_)
            have hP : va_P D vwCl ((wX x0 lim a0 k0 u0 v0 t1 gen (w1 + 1) rns als) ++ ((wH a0 d0 sz mo) ++ ((wR cO d0 cap rf) ++ ((wK k0 k1) ++ ((wI3 cI k1 dd_43) ++ ((wB cI h0 q1 q2 q3 q4 q5 o f ee t b ic bc_61 sa_61 gn_61) ++ (restW cI bk1 nb ix.toNatClampNeg ++ fr))))))) H := hP
            have hD : va_D A ((wX x0 lim a0 k0 u0 v0 t1 gen (w1 + 1) rns als) ++ ((wH a0 d0 sz mo) ++ ((wR cO d0 cap rf) ++ ((wK k0 k1) ++ ((wI3 cI k1 dd_43) ++ ((wB cI h0 q1 q2 q3 q4 q5 o f ee t b ic bc_61 sa_61 gn_61) ++ (restW cI bk1 nb ix.toNatClampNeg ++ fr))))))) := hD
            have hP := P_perm ((((((pool_unf cI bk1 ((h0, q1, q2, q3, q4, q5), (o, f, ee, t, b), (ic, bc_61, sa_61, gn_61)) hix fr).append_left _).append_left _).append_left _).append_left _).append_left _) hP
            have hD := D_perm ((((((pool_unf cI bk1 ((h0, q1, q2, q3, q4, q5), (o, f, ee, t, b), (ic, bc_61, sa_61, gn_61)) hix fr).append_left _).append_left _).append_left _).append_left _).append_left _) hD
            have hP : va_P D vwCl ((wX x0 lim a0 k0 u0 v0 t1 gen (w1 + 1) rns als) ++ ((wH a0 d0 sz mo) ++ ((wR cO d0 cap rf) ++ ((wK k0 k1) ++ ((wI3 cI k1 dd_43) ++ ((poolW cI (upB bk1 ix.toNatClampNeg ((h0, q1, q2, q3, q4, q5), (o, f, ee, t, b), (ic, bc_61, sa_61, gn_61))) nb) ++ fr)))))) H := hP
            have hD : va_D A ((wX x0 lim a0 k0 u0 v0 t1 gen (w1 + 1) rns als) ++ ((wH a0 d0 sz mo) ++ ((wR cO d0 cap rf) ++ ((wK k0 k1) ++ ((wI3 cI k1 dd_43) ++ ((poolW cI (upB bk1 ix.toNatClampNeg ((h0, q1, q2, q3, q4, q5), (o, f, ee, t, b), (ic, bc_61, sa_61, gn_61))) nb) ++ fr)))))) := hD
            refine lv_iinc (v := ix + 1) (lv' := [(2, .int (ix + 1)), (3, .ref h0), (0, .ref x0), (1, .int q)]) hx hb d_M_border_74 hl (k := 3) rfl rfl (by decide) rfl (fun ls hl => ?_)
            refine lv_goto (tgt := 4) hx hb d_M_border_77 (by decide) ?_
            exact ih q (ix + 1) (w1 + 1) dd_43 (upB bk1 ix.toNatClampNeg ((h0, q1, q2, q3, q4, q5), (o, f, ee, t, b), (ic, bc_61, sa_61, gn_61))) _ _ ls (by rw [i32_1 (by omega)]; omega) (by have := sz_24 hsz hnb hi c_12; rw [i32_1 (by omega)]; omega) (hrf_up hrf1 hzb rfl) (by cases e_61; rw [← hF]; simp only [bdL, hsa, hby, hbc, hzb, stB, rowsB, ← e_43.1, if_neg c_12, if_pos c_32, if_neg c_46]) hP hD hS (lv_sub hl [2, 3, 0] rfl)
          · refine lv_aload_n hx hb d_M_border_49 rfl (lv_at hl 0 rfl) ?_
            refine lv_iconst (v := 2) hx hb d_M_border_50 (by decide) ?_
            refine va_putN (ci := 0) (v := .int 2) (ty := .int) (C := R_B) (T := T_B) (N := 9) hx hb ht in_B t_B t_B_ok n_B hown hK.1 hP hD hS 5 rfl rfl 7 (by decide) (va_Nw.use rfl (hK.2 _ n_fl_M_100)) (fun _ h9 => h9) rfl (by decide +kernel) rfl rfl (Nat.le_of_ble_eq_true rfl) d_M_border_51 (fun H locs hP hD hS => ?_)
            have hP : va_P D vwCl ((wX x0 lim a0 k0 u0 v0 t1 gen w1 rns als) ++ ((wH a0 d0 sz mo) ++ ((wR cO d0 cap rf) ++ ((wK k0 k1) ++ ((wI3 cI k1 dd_43) ++ ((wB cI h0 q1 q2 q3 q4 q5 o f ee t b ic bc 2 gn) ++ (restW cI bk1 nb ix.toNatClampNeg ++ fr))))))) H := hP
            have hD : va_D A ((wX x0 lim a0 k0 u0 v0 t1 gen w1 rns als) ++ ((wH a0 d0 sz mo) ++ ((wR cO d0 cap rf) ++ ((wK k0 k1) ++ ((wI3 cI k1 dd_43) ++ ((wB cI h0 q1 q2 q3 q4 q5 o f ee t b ic bc 2 gn) ++ (restW cI bk1 nb ix.toNatClampNeg ++ fr))))))) := hD
            refine lv_iinc (v := q + 1) (lv' := [(1, .int (q + 1)), (3, .ref h0), (0, .ref x0), (2, .int ix)]) hx hb d_M_border_54 hl (k := 2) rfl rfl (by decide) rfl (fun ls hl => ?_)
            refine lv_goto (tgt := 74) hx hb d_M_border_57 (by decide) ?_
            have hP := P_perm ((((((pool_unf cI bk1 ((h0, q1, q2, q3, q4, q5), (o, f, ee, t, b), (ic, bc, 2, gn)) hix fr).append_left _).append_left _).append_left _).append_left _).append_left _) hP
            have hD := D_perm ((((((pool_unf cI bk1 ((h0, q1, q2, q3, q4, q5), (o, f, ee, t, b), (ic, bc, 2, gn)) hix fr).append_left _).append_left _).append_left _).append_left _).append_left _) hD
            have hP : va_P D vwCl ((wX x0 lim a0 k0 u0 v0 t1 gen w1 rns als) ++ ((wH a0 d0 sz mo) ++ ((wR cO d0 cap rf) ++ ((wK k0 k1) ++ ((wI3 cI k1 dd_43) ++ ((poolW cI (upB bk1 ix.toNatClampNeg ((h0, q1, q2, q3, q4, q5), (o, f, ee, t, b), (ic, bc, 2, gn))) nb) ++ fr)))))) H := hP
            have hD : va_D A ((wX x0 lim a0 k0 u0 v0 t1 gen w1 rns als) ++ ((wH a0 d0 sz mo) ++ ((wR cO d0 cap rf) ++ ((wK k0 k1) ++ ((wI3 cI k1 dd_43) ++ ((poolW cI (upB bk1 ix.toNatClampNeg ((h0, q1, q2, q3, q4, q5), (o, f, ee, t, b), (ic, bc, 2, gn))) nb) ++ fr)))))) := hD
            refine lv_iinc (v := ix + 1) (lv' := [(2, .int (ix + 1)), (1, .int (q + 1)), (3, .ref h0), (0, .ref x0)]) hx hb d_M_border_74 hl (k := 3) rfl rfl (by decide) rfl (fun ls hl => ?_)
            refine lv_goto (tgt := 4) hx hb d_M_border_77 (by decide) ?_
            exact ih (q + 1) (ix + 1) w1 dd_43 (upB bk1 ix.toNatClampNeg ((h0, q1, q2, q3, q4, q5), (o, f, ee, t, b), (ic, bc, 2, gn))) _ _ ls (by rw [i32_1 (by omega)]; omega) (by have := sz_24 hsz hnb hi c_12; rw [i32_1 (by omega)]; omega) (hrf_up hrf1 hzb rfl) (by rw [← hF]; simp only [bdL, hsa, hby, hbc, hzb, stB, rowsB, ← e_43.1, if_neg c_12, if_pos c_32, if_pos c_46]) hP hD hS (lv_sub hl [3, 1, 0] rfl)
        · refine lv_goto (tgt := 74) hx hb d_M_border_35 (by decide) ?_
          have hP := P_perm ((((((pool_foc cI bk1 hix fr).symm.append_left _).append_left _).append_left _).append_left _).append_left _) (by rw [hzb]; exact hP)
          have hD := D_perm ((((((pool_foc cI bk1 hix fr).symm.append_left _).append_left _).append_left _).append_left _).append_left _) (by rw [hzb]; exact hD)
          have hP : va_P D vwCl ((wX x0 lim a0 k0 u0 v0 t1 gen w1 rns als) ++ ((wH a0 d0 sz mo) ++ ((wR cO d0 cap rf) ++ ((wK k0 k1) ++ ((wI3 cI k1 d1) ++ ((poolW cI bk1 nb) ++ fr)))))) H := hP
          have hD : va_D A ((wX x0 lim a0 k0 u0 v0 t1 gen w1 rns als) ++ ((wH a0 d0 sz mo) ++ ((wR cO d0 cap rf) ++ ((wK k0 k1) ++ ((wI3 cI k1 d1) ++ ((poolW cI bk1 nb) ++ fr)))))) := hD
          refine lv_iinc (v := ix + 1) (lv' := [(2, .int (ix + 1)), (3, .ref h0), (0, .ref x0), (1, .int q)]) hx hb d_M_border_74 hl (k := 3) rfl rfl (by decide) rfl (fun ls hl => ?_)
          refine lv_goto (tgt := 4) hx hb d_M_border_77 (by decide) ?_
          exact ih q (ix + 1) w1 d1 bk1 _ _ ls (by rw [i32_1 (by omega)]; omega) (by have := sz_24 hsz hnb hi c_12; rw [i32_1 (by omega)]; omega) hrf1 (by rw [← hF]; simp only [bdL, hsa, if_neg c_12, if_neg c_32]) hP hD hS (lv_sub hl [2, 3, 0] rfl)
  exact lp 25 0 0 wrg dd bk _ _ ls (by decide) (by decide) hrf rfl hP hD hS (lv_sub hl [2, 1, 0] rfl)

abbrev w_M_next : List Cond := .code y_M_next b_M_next 5 (some .int) :: BIG
set_option maxHeartbeats 1000000 in
set_option maxRecDepth 100000 in
theorem c_M_next (l : Launch) (D : va_G) (cI cL cO : ClassId) (x0 : Nat) (lim : Int32) (a0 : Nat) (k0 : Nat) (u0 : Nat) (v0 : Nat) (t1 : Nat) (gen : Int32) (wrg : Int32) (rns : Int32) (als : Int32) (d0 : Nat) (sz : Int32) (mo : Int32) (cap : Nat) (rf : Nat → Option Nat) (bk : Nat → BK) (nb : Nat) (fr : va_W) (hsz : sz = nI nb) (hnb : nb ≤ 24) (hcap : nb ≤ cap) (hrf : ∀ j, j < nb → rf j = some (bk j).1.1) : CMi l y_M_next w_M_next ({ frames := 3, cells := 0, slots := 0, locals := 64 }) D cI cL cO [.ref x0] ((wX x0 lim a0 k0 u0 v0 t1 gen wrg rns als) ++ ((wH a0 d0 sz mo) ++ ((wR cO d0 cap rf) ++ ((poolW cI bk nb) ++ fr)))) (fun (r : Int32) (u : Int32 × (Nat → BK)) => (r, u.2) = nbL (maxF 0 (gen + 1 - lim + 1)) sz 25 0 0 bk ∧ u.1 = gen + 1) (fun u : Int32 × (Nat → BK) => ((wX x0 lim a0 k0 u0 v0 t1 u.1 wrg rns als) ++ ((wH a0 d0 sz mo) ++ ((wR cO d0 cap rf) ++ ((poolW cI u.2 nb) ++ fr))))) 0 0 := by
  refine ofMi (cc := b_M_next) (maxL := 5) (ret := (some .int)) (by decide) rfl (Nat.le_of_ble_eq_true rfl) ?_
  intro p e s m below meth c A ls H Q hQ hx hb hr hlocks hin hts hown hml hP hK hD hS hA hl
  have hl : lv_has ls 5 [(0, .ref x0)] := hl
  have hown : s.vm.findClass R_M = some m.cls := hown
  have ht : ∀ w ∈ BIG, w.before _ s = true := fun w h => hts w (List.mem_cons_of_mem _ h)
  refine lv_aload_n hx hb d_M_next_0 rfl (lv_at hl 0 rfl) ?_
  refine lv_dup hx hb d_M_next_1 rfl ?_
  refine va_get (ci := 3) (v := .int gen) (C := R_M) (T := T_M) (N := 10) hx hb ht in_M hown hK.1 hP 0 rfl rfl 6 (by decide) (ht _ k_fl_M_103) (fun _ h9 => h9) rfl d_M_next_2 ?_
  refine lv_iconst (v := 1) hx hb d_M_next_5 (by decide) ?_
  refine lv_iadd hx hb d_M_next_6 ?_
  refine va_put (ci := 3) (v := .int (gen + 1)) (ty := .int) (C := R_M) (T := T_M) (N := 10) hx hb ht in_M t_M t_M_ok n_M hown hK.1 hP hD hS 0 rfl rfl 6 (by decide) (ht _ k_fl_M_103) (fun _ h9 => h9) rfl (by decide +kernel) rfl rfl (Nat.le_of_ble_eq_true rfl) d_M_next_7 (fun H locs hP hD hS => ?_)
  have hP : va_P D vwCl ((wX x0 lim a0 k0 u0 v0 t1 (gen + 1) wrg rns als) ++ ((wH a0 d0 sz mo) ++ ((wR cO d0 cap rf) ++ ((poolW cI bk nb) ++ fr)))) H := hP
  have hD : va_D A ((wX x0 lim a0 k0 u0 v0 t1 (gen + 1) wrg rns als) ++ ((wH a0 d0 sz mo) ++ ((wR cO d0 cap rf) ++ ((poolW cI bk nb) ++ fr)))) := hD
  refine lv_aload_n hx hb d_M_next_10 rfl (lv_at hl 0 rfl) ?_
  refine goRi (va_runV (As := []) (rest := []) ⟨hx, hb, hml, hown, hts⟩ (c_M_oldestGeneration l D cI cL cO x0 lim a0 k0 u0 v0 t1 (gen + 1) wrg rns als) (cwV 0 hts (gBIG (m4 k_ml_M_143 k_im_M_oldestGeneration k_sel_M_oldestGeneration k_ini_M) k_co_M_oldestGeneration) rfl rfl rfl (by decide +kernel) ⟨Nat.le_of_ble_eq_true rfl, Nat.le_of_ble_eq_true rfl⟩) ⟨PR.bl, va_recv hK.1 ((P_app.mp hP).1) (ci := 3) (q0 := 0) rfl rfl, PR.pre ((P_app.mp hP).1) hK⟩ rfl rfl hl.1 rfl (lv_room (Nat.le_of_ble_eq_true rfl)) d_M_next_11 ⟨Nat.le_of_ble_eq_true rfl, Nat.le_of_ble_eq_true rfl⟩) ?_
  refine lv_istore_n (lv' := [(1, .int (maxF 0 ((gen + 1) - lim + 1))), (0, .ref x0)]) hx hb d_M_next_14 rfl hl (by decide) rfl (fun ls hl => ?_)
  refine lv_iconst (v := 0) hx hb d_M_next_15 (by decide) ?_
  refine lv_istore_n (lv' := [(2, .int 0), (1, .int (maxF 0 ((gen + 1) - lim + 1))), (0, .ref x0)]) hx hb d_M_next_16 rfl hl (by decide) rfl (fun ls hl => ?_)
  refine lv_iconst (v := 0) hx hb d_M_next_17 (by decide) ?_
  refine lv_istore_n (lv' := [(3, .int 0), (2, .int 0), (1, .int (maxF 0 ((gen + 1) - lim + 1))), (0, .ref x0)]) hx hb d_M_next_18 rfl hl (by decide) rfl (fun ls hl => ?_)
  have lp : ∀ (n : Nat) (q : Int32) (ix : Int32) (bk1 : Nat → BK) (H : Heap) (locs : List Loc) (ls : Array Slot), (ix.toInt + (n : Int) = 25) → (0 ≤ ix.toInt ∧ ix.toInt ≤ 24) → (∀ j, j < nb → rf j = some (bk1 j).1.1) → (nbL (maxF 0 (gen + 1 - lim + 1)) sz n ix q bk1 = nbL (maxF 0 (gen + 1 - lim + 1)) sz 25 0 0 bk) → va_P D vwCl ((wX x0 lim a0 k0 u0 v0 t1 (gen + 1) wrg rns als) ++ ((wH a0 d0 sz mo) ++ ((wR cO d0 cap rf) ++ ((poolW cI bk1 nb) ++ fr)))) H → va_D A ((wX x0 lim a0 k0 u0 v0 t1 (gen + 1) wrg rns als) ++ ((wH a0 d0 sz mo) ++ ((wR cO d0 cap rf) ++ ((poolW cI bk1 nb) ++ fr)))) → va_S A s.heap H locs → lv_has ls 5 [(0, .ref x0), (1, .int (maxF 0 ((gen + 1) - lim + 1))), (2, .int q), (3, .int ix)] → W p l e ({ frames := 3, cells := 0, slots := 0, locals := 64 } : Room) s m ([.ref x0] : List Value).toArray below meth c H locs 0 0 Q (F0 m 19 ls []) := by
    intro n
    induction n with
    | zero =>
      intro q ix bk1 H locs ls hn hi hrf1 hF hP hD hS hl
      exact absurd hn (by omega)
    | succ n ih =>
      intro q ix bk1 H locs ls hn hi hrf1 hF hP hD hS hl
      refine lv_iload_n hx hb d_M_next_19 rfl (lv_at hl 3 rfl) ?_
      refine lv_aload_n hx hb d_M_next_20 rfl (lv_at hl 0 rfl) ?_
      refine va_get (ci := 3) (v := .ref a0) (C := R_M) (T := T_M) (N := 10) hx hb ht in_M hown hK.1 hP 0 rfl rfl 1 (by decide) (ht _ k_fl_M_12) (fun _ h9 => h9) rfl d_M_next_21 ?_
      refine goRi (va_runV (As := []) (rest := [.int ix]) ⟨hx, hb, hml, hown, hts⟩ (c_A_size l D cI cL cO a0 d0 sz mo) (cwV 0 hts (gBIG (m4 k_ml_M_46 k_im_A_size k_sel_A_size k_ini_A) k_co_A_size) rfl rfl rfl (by decide +kernel) ⟨Nat.le_of_ble_eq_true rfl, Nat.le_of_ble_eq_true rfl⟩) ⟨PR.bl, va_recv hK.1 ((P_app.mp (P_app.mp hP).2).1) (ci := 4) (q0 := 0) rfl rfl, PR.pre ((P_app.mp (P_app.mp hP).2).1) hK⟩ rfl rfl hl.1 rfl (lv_room (Nat.le_of_ble_eq_true rfl)) d_M_next_24 ⟨Nat.le_of_ble_eq_true rfl, Nat.le_of_ble_eq_true rfl⟩) ?_
      refine lv_icmp_ge (tgt := 74) hx hb d_M_next_27 (by decide) (fun c_27 => ?_) (fun c_27 => ?_)
      · refine lv_iload_n hx hb d_M_next_74 rfl (lv_at hl 2 rfl) ?_
        rw [hQ]; exact retMi (w1 := fun u : Int32 × (Nat → BK) => ((wX x0 lim a0 k0 u0 v0 t1 u.1 wrg rns als) ++ ((wH a0 d0 sz mo) ++ ((wR cO d0 cap rf) ++ ((poolW cI u.2 nb) ++ fr))))) (gen + 1, bk1) hx hb hr hlocks hP hD hS ⟨(by rw [← hF]; simp only [nbL, if_pos c_27]), rfl⟩ d_M_next_75
      · have hix := ix_lt hsz hnb hi c_27
        have hP := P_perm ((((pool_foc cI bk1 hix fr).append_left _).append_left _).append_left _) hP
        have hD := D_perm ((((pool_foc cI bk1 hix fr).append_left _).append_left _).append_left _) hD
        obtain ⟨⟨⟨h0, q1, q2, q3, q4, q5⟩, ⟨o, f, ee, t, b⟩, ic, bc, sa, gn⟩, hzb⟩ : ∃ z, bk1 ix.toNatClampNeg = z := ⟨_, rfl⟩
        rw [hzb] at hP hD
        have hr1 : rf ix.toNatClampNeg = some h0 := by rw [hrf1 _ hix, hzb]
        have hsa : saB bk1 ix.toNatClampNeg = sa := by simp only [saB, hzb]
        have hP : va_P D vwCl ((wX x0 lim a0 k0 u0 v0 t1 (gen + 1) wrg rns als) ++ ((wH a0 d0 sz mo) ++ ((wR cO d0 cap rf) ++ ((wB cI h0 q1 q2 q3 q4 q5 o f ee t b ic bc sa gn) ++ (restW cI bk1 nb ix.toNatClampNeg ++ fr))))) H := hP
        have hD : va_D A ((wX x0 lim a0 k0 u0 v0 t1 (gen + 1) wrg rns als) ++ ((wH a0 d0 sz mo) ++ ((wR cO d0 cap rf) ++ ((wB cI h0 q1 q2 q3 q4 q5 o f ee t b ic bc sa gn) ++ (restW cI bk1 nb ix.toNatClampNeg ++ fr))))) := hD
        have hgn : gnB bk1 ix.toNatClampNeg = gn := by simp only [gnB, hzb]
        refine lv_aload_n hx hb d_M_next_30 rfl (lv_at hl 0 rfl) ?_
        refine va_get (ci := 3) (v := .ref a0) (C := R_M) (T := T_M) (N := 10) hx hb ht in_M hown hK.1 hP 0 rfl rfl 1 (by decide) (ht _ k_fl_M_12) (fun _ h9 => h9) rfl d_M_next_31 ?_
        refine lv_iload_n hx hb d_M_next_34 rfl (lv_at hl 3 rfl) ?_
        refine goRv (va_runV (As := [.int ix]) (rest := []) ⟨hx, hb, hml, hown, hts⟩ (c_A_get l D cI cL cO a0 d0 sz mo cap rf ix h0 (nn_of hi.1) (Int32.not_le.mp c_27) (ix_in hi hix hcap) hr1) (cwV 1 hts (gBIG (m4 k_ml_M_134 k_im_A_get k_sel_A_get k_ini_A) k_co_A_get) rfl rfl rfl (by decide +kernel) ⟨Nat.le_of_ble_eq_true rfl, Nat.le_of_ble_eq_true rfl⟩) ⟨PR.bl, va_recv hK.1 (P_app.mpr ⟨(P_app.mp (P_app.mp hP).2).1, (P_app.mp (P_app.mp (P_app.mp hP).2).2).1⟩) (ci := 4) (q0 := 0) rfl rfl, PR.pre (P_app.mpr ⟨(P_app.mp (P_app.mp hP).2).1, (P_app.mp (P_app.mp (P_app.mp hP).2).2).1⟩) hK⟩ rfl rfl hl.1 rfl (lv_room (Nat.le_of_ble_eq_true rfl)) d_M_next_35 ⟨Nat.le_of_ble_eq_true rfl, Nat.le_of_ble_eq_true rfl⟩) ?_
        refine va_castY (C := R_B) hx hb hown (ht _ k_cl_M_57) (hK.2 _ n_ca_BB) (va_recv hK.1 (P_app.mp (P_app.mp (P_app.mp (P_app.mp hP).2).2).2).1 (ci := 0) (q0 := 0) rfl rfl) d_M_next_38 ?_
        refine lv_astore (lv' := [(4, .ref h0), (0, .ref x0), (1, .int (maxF 0 ((gen + 1) - lim + 1))), (2, .int q), (3, .int ix)]) hx hb d_M_next_41 hl (by decide) rfl (fun ls hl => ?_)
        refine lv_aload hx hb d_M_next_43 (lv_at hl 0 rfl) ?_
        refine va_getN (ci := 0) (v := .int sa) (C := R_B) (T := T_B) (N := 9) hx hb ht in_B hown hK.1 hP 3 rfl rfl 7 (by decide) (va_Nw.use rfl (hK.2 _ n_fl_M_100)) (fun _ h9 => h9) rfl d_M_next_45 ?_
        refine lv_if_eq (tgt := 68) hx hb d_M_next_48 (by decide) (fun c_48 => ?_) (fun c_48 => ?_)
        · have hP := P_perm ((((pool_foc cI bk1 hix fr).symm.append_left _).append_left _).append_left _) (by rw [hzb]; exact hP)
          have hD := D_perm ((((pool_foc cI bk1 hix fr).symm.append_left _).append_left _).append_left _) (by rw [hzb]; exact hD)
          have hP : va_P D vwCl ((wX x0 lim a0 k0 u0 v0 t1 (gen + 1) wrg rns als) ++ ((wH a0 d0 sz mo) ++ ((wR cO d0 cap rf) ++ ((poolW cI bk1 nb) ++ fr)))) H := hP
          have hD : va_D A ((wX x0 lim a0 k0 u0 v0 t1 (gen + 1) wrg rns als) ++ ((wH a0 d0 sz mo) ++ ((wR cO d0 cap rf) ++ ((poolW cI bk1 nb) ++ fr)))) := hD
          refine lv_iinc (v := ix + 1) (lv' := [(3, .int (ix + 1)), (4, .ref h0), (0, .ref x0), (1, .int (maxF 0 ((gen + 1) - lim + 1))), (2, .int q)]) hx hb d_M_next_68 hl (k := 4) rfl rfl (by decide) rfl (fun ls hl => ?_)
          refine lv_goto (tgt := 19) hx hb d_M_next_71 (by decide) ?_
          exact ih q (ix + 1) bk1 _ _ ls (by rw [i32_1 (by omega)]; omega) (by have := sz_24 hsz hnb hi c_27; rw [i32_1 (by omega)]; omega) hrf1 (by rw [← hF]; simp only [nbL, hsa, hgn, hzb, rowsB, if_neg c_27, if_pos c_48]) hP hD hS (lv_sub hl [2, 3, 4, 0] rfl)
        · refine lv_aload hx hb d_M_next_51 (lv_at hl 0 rfl) ?_
          refine va_getN (ci := 0) (v := .int gn) (C := R_B) (T := T_B) (N := 9) hx hb ht in_B hown hK.1 hP 3 rfl rfl 8 (by decide) (va_Nw.use rfl (hK.2 _ n_fl_M_106)) (fun _ h9 => h9) rfl d_M_next_53 ?_
          refine lv_iload_n hx hb d_M_next_56 rfl (lv_at hl 2 rfl) ?_
          refine lv_icmp_ge (tgt := 68) hx hb d_M_next_57 (by decide) (fun c_57 => ?_) (fun c_57 => ?_)
          · have hP := P_perm ((((pool_foc cI bk1 hix fr).symm.append_left _).append_left _).append_left _) (by rw [hzb]; exact hP)
            have hD := D_perm ((((pool_foc cI bk1 hix fr).symm.append_left _).append_left _).append_left _) (by rw [hzb]; exact hD)
            have hP : va_P D vwCl ((wX x0 lim a0 k0 u0 v0 t1 (gen + 1) wrg rns als) ++ ((wH a0 d0 sz mo) ++ ((wR cO d0 cap rf) ++ ((poolW cI bk1 nb) ++ fr)))) H := hP
            have hD : va_D A ((wX x0 lim a0 k0 u0 v0 t1 (gen + 1) wrg rns als) ++ ((wH a0 d0 sz mo) ++ ((wR cO d0 cap rf) ++ ((poolW cI bk1 nb) ++ fr)))) := hD
            refine lv_iinc (v := ix + 1) (lv' := [(3, .int (ix + 1)), (4, .ref h0), (0, .ref x0), (1, .int (maxF 0 ((gen + 1) - lim + 1))), (2, .int q)]) hx hb d_M_next_68 hl (k := 4) rfl rfl (by decide) rfl (fun ls hl => ?_)
            refine lv_goto (tgt := 19) hx hb d_M_next_71 (by decide) ?_
            exact ih q (ix + 1) bk1 _ _ ls (by rw [i32_1 (by omega)]; omega) (by have := sz_24 hsz hnb hi c_27; rw [i32_1 (by omega)]; omega) hrf1 (by rw [← hF]; simp only [nbL, hsa, hgn, hzb, rowsB, if_neg c_27, if_neg c_48, if_pos c_57]) hP hD hS (lv_sub hl [2, 3, 4, 0] rfl)
          · refine lv_aload hx hb d_M_next_60 (lv_at hl 0 rfl) ?_
            have hP := P_sw2 hP
            have hD := D_sw2 hD
            have hP := P_sw1 hP
            have hD := D_sw1 hD
            have hP := P_sw hP
            have hD := D_sw hD
            refine goMv (va_runVN (As := []) (rest := []) ⟨hx, hb, hml, hown, hts⟩ (c_B_becomeRows l D cI cL cO h0 q1 q2 q3 q4 q5 o f ee t b ic bc sa gn ((wX x0 lim a0 k0 u0 v0 t1 (gen + 1) wrg rns als) ++ ((wH a0 d0 sz mo) ++ ((wR cO d0 cap rf) ++ (restW cI bk1 nb ix.toNatClampNeg ++ fr)))) H.size) ⟨va_cnB 0 hts (gB0 k_co_B_becomeRows) rfl rfl rfl (hK.2 _ n_ml_M_90) (ht _ k_ini_B) (by decide +kernel) ⟨Nat.le_of_ble_eq_true rfl, Nat.le_of_ble_eq_true rfl⟩, ht _ k_im_B_becomeRows, ht _ k_sel_B_becomeRows⟩ ⟨PM.bl, va_recv hK.1 hP (ci := 0) (q0 := 0) rfl rfl, PM.pre hP hD hK⟩ rfl rfl hl.1 rfl (lv_room (Nat.le_of_ble_eq_true rfl)) d_M_next_62 ⟨Nat.le_of_ble_eq_true rfl, Nat.le_of_ble_eq_true rfl⟩) hD hS hA (fun u H locs hw hP hD hS => ?_)
            obtain ⟨bc_62, sa_62, gn_62⟩ := u
            have e_62 : (bc_62, sa_62, gn_62) = (0, 0, -1) := hw
            have hP : va_P D vwCl ((wB cI h0 q1 q2 q3 q4 q5 o f ee t b ic bc_62 sa_62 gn_62) ++ ((wX x0 lim a0 k0 u0 v0 t1 (gen + 1) wrg rns als) ++ ((wH a0 d0 sz mo) ++ ((wR cO d0 cap rf) ++ (restW cI bk1 nb ix.toNatClampNeg ++ fr))))) H := hP
            have hD : va_D A ((wB cI h0 q1 q2 q3 q4 q5 o f ee t b ic bc_62 sa_62 gn_62) ++ ((wX x0 lim a0 k0 u0 v0 t1 (gen + 1) wrg rns als) ++ ((wH a0 d0 sz mo) ++ ((wR cO d0 cap rf) ++ (restW cI bk1 nb ix.toNatClampNeg ++ fr))))) := hD
            have hP := P_sw hP
            have hD := D_sw hD
            have hP := P_sw1 hP
            have hD := D_sw1 hD
            have hP := P_sw2 hP
            have hD := D_sw2 hD
            have hP : va_P D vwCl ((wX x0 lim a0 k0 u0 v0 t1 (gen + 1) wrg rns als) ++ ((wH a0 d0 sz mo) ++ ((wR cO d0 cap rf) ++ ((wB cI h0 q1 q2 q3 q4 q5 o f ee t b ic bc_62 sa_62 gn_62) ++ (restW cI bk1 nb ix.toNatClampNeg ++ fr))))) H := hP
            have hD : va_D A ((wX x0 lim a0 k0 u0 v0 t1 (gen + 1) wrg rns als) ++ ((wH a0 d0 sz mo) ++ ((wR cO d0 cap rf) ++ ((wB cI h0 q1 q2 q3 q4 q5 o f ee t b ic bc_62 sa_62 gn_62) ++ (restW cI bk1 nb ix.toNatClampNeg ++ fr))))) := hD
            refine lv_iinc (v := q + 1) (lv' := [(2, .int (q + 1)), (4, .ref h0), (0, .ref x0), (1, .int (maxF 0 ((gen + 1) - lim + 1))), (3, .int ix)]) hx hb d_M_next_65 hl (k := 3) rfl rfl (by decide) rfl (fun ls hl => ?_)
            have hP := P_perm ((((pool_unf cI bk1 ((h0, q1, q2, q3, q4, q5), (o, f, ee, t, b), (ic, bc_62, sa_62, gn_62)) hix fr).append_left _).append_left _).append_left _) hP
            have hD := D_perm ((((pool_unf cI bk1 ((h0, q1, q2, q3, q4, q5), (o, f, ee, t, b), (ic, bc_62, sa_62, gn_62)) hix fr).append_left _).append_left _).append_left _) hD
            have hP : va_P D vwCl ((wX x0 lim a0 k0 u0 v0 t1 (gen + 1) wrg rns als) ++ ((wH a0 d0 sz mo) ++ ((wR cO d0 cap rf) ++ ((poolW cI (upB bk1 ix.toNatClampNeg ((h0, q1, q2, q3, q4, q5), (o, f, ee, t, b), (ic, bc_62, sa_62, gn_62))) nb) ++ fr)))) H := hP
            have hD : va_D A ((wX x0 lim a0 k0 u0 v0 t1 (gen + 1) wrg rns als) ++ ((wH a0 d0 sz mo) ++ ((wR cO d0 cap rf) ++ ((poolW cI (upB bk1 ix.toNatClampNeg ((h0, q1, q2, q3, q4, q5), (o, f, ee, t, b), (ic, bc_62, sa_62, gn_62))) nb) ++ fr)))) := hD
            refine lv_iinc (v := ix + 1) (lv' := [(3, .int (ix + 1)), (2, .int (q + 1)), (4, .ref h0), (0, .ref x0), (1, .int (maxF 0 ((gen + 1) - lim + 1)))]) hx hb d_M_next_68 hl (k := 4) rfl rfl (by decide) rfl (fun ls hl => ?_)
            refine lv_goto (tgt := 19) hx hb d_M_next_71 (by decide) ?_
            exact ih (q + 1) (ix + 1) (upB bk1 ix.toNatClampNeg ((h0, q1, q2, q3, q4, q5), (o, f, ee, t, b), (ic, bc_62, sa_62, gn_62))) _ _ ls (by rw [i32_1 (by omega)]; omega) (by have := sz_24 hsz hnb hi c_27; rw [i32_1 (by omega)]; omega) (hrf_up hrf1 hzb rfl) (by cases e_62; rw [← hF]; simp only [nbL, hsa, hgn, hzb, rowsB, if_neg c_27, if_neg c_48, if_neg c_57]) hP hD hS (lv_sub hl [3, 4, 1, 0] rfl)
  exact lp 25 0 0 bk _ _ ls (by decide) (by decide) hrf rfl hP hD hS (lv_sub hl [3, 2, 1, 0] rfl)

abbrev w_M_block : List Cond := .code y_M_block b_M_block 1 (some .int) :: BIG
set_option maxHeartbeats 1000000 in
set_option maxRecDepth 100000 in
theorem c_M_block (l : Launch) (D : va_G) (cI cL cO : ClassId) (N t0 mi : Nat) (x0 : Nat) (lim : Int32) (a0 : Nat) (k0 : Nat) (u0 : Nat) (v0 : Nat) (t1 : Nat) (gen : Int32) (wrg : Int32) (rns : Int32) (als : Int32) (d0 : Nat) (sz : Int32) (mo : Int32) (cap : Nat) (rf : Nat → Option Nat) (fr : va_W) (h24 : sz < 24) (hne : ¬ sz = Int32.ofNat cap) (hi : vp_in sz cap) : CXi l y_M_block w_M_block ({ frames := 2, cells := 6, slots := 550, locals := 44 }) D cI cL cO N t0 mi [.ref x0] ((wX x0 lim a0 k0 u0 v0 t1 gen wrg rns als) ++ ((wH a0 d0 sz mo) ++ ((wR cO d0 cap rf) ++ fr))) (fun (r : Int32) (u : Nat × Nat × Nat × Nat × Nat × Nat) => r = sz + 1 - 1) (fun u : Nat × Nat × Nat × Nat × Nat × Nat => (wH a0 d0 (sz + 1) (mo + 1) ++ (wR cO d0 cap (va_up rf sz.toNatClampNeg (some u.1)) ++ (wB cI u.1 u.2.1 u.2.2.1 u.2.2.2.1 u.2.2.2.2.1 u.2.2.2.2.2 (fun _ => 0) (fun _ => 0) (fun _ => 0) (fun _ => 0) (fun _ => 0) 0 0 0 (-1) ++ (wX x0 lim a0 k0 u0 v0 t1 gen wrg rns als ++ fr))))) 6 550 := by
  refine ofXi (cc := b_M_block) (maxL := 1) (ret := (some .int)) (by decide) rfl (Nat.le_of_ble_eq_true rfl) ?_
  intro p e s m below meth c A ls H Q hQ hx hb hr hlocks hin hts hown hml hP hK hD hS hA hl hE hN hAN
  have hl : lv_has ls 1 [(0, .ref x0)] := hl
  have hown : s.vm.findClass R_M = some m.cls := hown
  have ht : ∀ w ∈ BIG, w.before _ s = true := fun w h => hts w (List.mem_cons_of_mem _ h)
  refine lv_aload_n hx hb d_M_block_0 rfl (lv_at hl 0 rfl) ?_
  refine va_get (ci := 3) (v := .ref a0) (C := R_M) (T := T_M) (N := 10) hx hb ht in_M hown hK.1 hP 0 rfl rfl 1 (by decide) (ht _ k_fl_M_12) (fun _ h9 => h9) rfl d_M_block_1 ?_
  refine goRi (va_runV (As := []) (rest := []) ⟨hx, hb, hml, hown, hts⟩ (c_A_size l D cI cL cO a0 d0 sz mo) (cwV 0 hts (gBIG (m4 k_ml_M_46 k_im_A_size k_sel_A_size k_ini_A) k_co_A_size) rfl rfl rfl (by decide +kernel) ⟨Nat.le_of_ble_eq_true rfl, Nat.le_of_ble_eq_true rfl⟩) ⟨PR.bl, va_recv hK.1 ((P_app.mp (P_app.mp hP).2).1) (ci := 4) (q0 := 0) rfl rfl, PR.pre ((P_app.mp (P_app.mp hP).2).1) hK⟩ rfl rfl hl.1 rfl (lv_room (Nat.le_of_ble_eq_true rfl)) d_M_block_4 ⟨Nat.le_of_ble_eq_true rfl, Nat.le_of_ble_eq_true rfl⟩) ?_
  refine lv_bipush (v := 24) hx hb d_M_block_7 (by decide) ?_
  refine lv_icmp_lt (tgt := 22) hx hb d_M_block_9 (by decide) (fun c_9 => ?_) (fun c_9 => ?_)
  · refine lv_aload_n hx hb d_M_block_22 rfl (lv_at hl 0 rfl) ?_
    refine va_get (ci := 3) (v := .ref a0) (C := R_M) (T := T_M) (N := 10) hx hb ht in_M hown hK.1 hP 0 rfl rfl 1 (by decide) (ht _ k_fl_M_12) (fun _ h9 => h9) rfl d_M_block_23 ?_
    refine va_new (ci := 0) (fs := [.null, .null, .null, .null, .null, .int 0, .int 0, .int 0, .int 0]) (C := R_B) (T := T_B) (N := 9) hx hb ht in_B t_B t_B_ok hown (ht _ k_cl_M_57) (ht _ k_ins_B) (ht _ k_ini_B) hK.1 hP hD hS hA rfl (fun j hj => by rcases (show j = 0 ∨ j = 1 ∨ j = 2 ∨ j = 3 ∨ j = 4 ∨ j = 5 ∨ j = 6 ∨ j = 7 ∨ j = 8 by omega) with rfl | rfl | rfl | rfl | rfl | rfl | rfl | rfl | rfl <;> rfl) (Nat.le_of_ble_eq_true rfl) (Nat.le_of_ble_eq_true rfl) d_M_block_26 (fun q26 H hP hD hS => ?_)
    have hP := P_perm (List.perm_append_singleton _ _) hP
    have hD := D_perm (List.perm_append_singleton _ _) hD
    have hP : va_P D vwCl ([(q26, .inr (0, [.null, .null, .null, .null, .null, .int 0, .int 0, .int 0, .int 0]))] ++ ((wX x0 lim a0 k0 u0 v0 t1 gen wrg rns als) ++ ((wH a0 d0 sz mo) ++ ((wR cO d0 cap rf) ++ fr)))) H := hP
    have hD : va_D A ([(q26, .inr (0, [.null, .null, .null, .null, .null, .int 0, .int 0, .int 0, .int 0]))] ++ ((wX x0 lim a0 k0 u0 v0 t1 gen wrg rns als) ++ ((wH a0 d0 sz mo) ++ ((wR cO d0 cap rf) ++ fr)))) := hD
    refine lv_dup hx hb d_M_block_29 rfl ?_
    refine goMv (va_runIN (As := []) (rest := [.ref q26, .ref a0]) ⟨hx, hb, hml, hown, hts⟩ (c_B_init l D cI cL cO q26 ((wX x0 lim a0 k0 u0 v0 t1 gen wrg rns als) ++ ((wH a0 d0 sz mo) ++ ((wR cO d0 cap rf) ++ fr)))  H.size) ⟨va_cnB 0 hts (gB0 k_co_B_init) rfl rfl rfl (hK.2 _ n_ml_M_59) (ht _ k_ini_B) (by decide +kernel) ⟨Nat.le_of_ble_eq_true rfl, Nat.le_of_ble_eq_true rfl⟩, rfl, ht _ k_im_B_init⟩ ⟨PM.bl, PM.pre hP hD hK⟩ rfl rfl hl.1 rfl (lv_room (Nat.le_of_ble_eq_true rfl)) d_M_block_30 ⟨Nat.le_of_ble_eq_true rfl, Nat.le_of_ble_eq_true rfl⟩) hD hS hA (fun u H locs hw hP hD hS => ?_)
    obtain ⟨v30_0, v30_1, v30_2, v30_3, v30_4⟩ := u
    have hP : va_P D vwCl ((wB cI q26 v30_0 v30_1 v30_2 v30_3 v30_4 (fun _ => 0) (fun _ => 0) (fun _ => 0) (fun _ => 0) (fun _ => 0) 0 0 0 (-1)) ++ ((wX x0 lim a0 k0 u0 v0 t1 gen wrg rns als) ++ ((wH a0 d0 sz mo) ++ ((wR cO d0 cap rf) ++ fr)))) H := hP
    have hD : va_D A ((wB cI q26 v30_0 v30_1 v30_2 v30_3 v30_4 (fun _ => 0) (fun _ => 0) (fun _ => 0) (fun _ => 0) (fun _ => 0) 0 0 0 (-1)) ++ ((wX x0 lim a0 k0 u0 v0 t1 gen wrg rns als) ++ ((wH a0 d0 sz mo) ++ ((wR cO d0 cap rf) ++ fr)))) := hD
    have hP := P_sw1 hP
    have hD := D_sw1 hD
    have hP := P_sw hP
    have hD := D_sw hD
    have hP := P_sw2 hP
    have hD := D_sw2 hD
    have hP := P_sw1 hP
    have hD := D_sw1 hD
    refine goMi (va_runV (As := [.ref q26]) (rest := []) ⟨hx, hb, hml, hown, hts⟩ (c_A_add l D cI cL cO N t0 mi a0 d0 sz mo cap rf ((wB cI q26 v30_0 v30_1 v30_2 v30_3 v30_4 (fun _ => 0) (fun _ => 0) (fun _ => 0) (fun _ => 0) (fun _ => 0) 0 0 0 (-1)) ++ ((wX x0 lim a0 k0 u0 v0 t1 gen wrg rns als) ++ fr)) q26 hne hi (⟨_, List.mem_append_left _ List.mem_cons_self⟩) H.size) (cwV 1 hts (gBIG (m4 k_ml_M_60 k_im_A_add k_sel_A_add k_ini_A) k_co_A_add) rfl rfl rfl (by decide +kernel) ⟨Nat.le_of_ble_eq_true rfl, Nat.le_of_ble_eq_true rfl⟩) ⟨PX.bl, va_recv hK.1 hP (ci := 4) (q0 := 0) rfl rfl, PX.pre hP hD hK hE hS hAN hN⟩ rfl rfl hl.1 rfl (lv_room (Nat.le_of_ble_eq_true rfl)) d_M_block_33 ⟨Nat.le_of_ble_eq_true rfl, Nat.le_of_ble_eq_true rfl⟩) hD hS hA (fun r_33 u H locs hw hP hD hS => ?_)
    have hP : va_P D vwCl ((wH a0 d0 (sz + 1) (mo + 1)) ++ ((wR cO d0 cap (va_up rf sz.toNatClampNeg (some q26))) ++ ((wB cI q26 v30_0 v30_1 v30_2 v30_3 v30_4 (fun _ => 0) (fun _ => 0) (fun _ => 0) (fun _ => 0) (fun _ => 0) 0 0 0 (-1)) ++ ((wX x0 lim a0 k0 u0 v0 t1 gen wrg rns als) ++ fr)))) H := hP
    have hD : va_D A ((wH a0 d0 (sz + 1) (mo + 1)) ++ ((wR cO d0 cap (va_up rf sz.toNatClampNeg (some q26))) ++ ((wB cI q26 v30_0 v30_1 v30_2 v30_3 v30_4 (fun _ => 0) (fun _ => 0) (fun _ => 0) (fun _ => 0) (fun _ => 0) 0 0 0 (-1)) ++ ((wX x0 lim a0 k0 u0 v0 t1 gen wrg rns als) ++ fr)))) := hD
    obtain rfl : r_33 = 1 := hw
    refine lv_pop hx hb d_M_block_36 rfl ?_
    refine lv_aload_n hx hb d_M_block_37 rfl (lv_at hl 0 rfl) ?_
    refine va_get (ci := 3) (v := .ref a0) (C := R_M) (T := T_M) (N := 10) hx hb ht in_M hown hK.1 hP 8 rfl rfl 1 (by decide) (ht _ k_fl_M_12) (fun _ h9 => h9) rfl d_M_block_38 ?_
    refine goRi (va_runV (As := []) (rest := []) ⟨hx, hb, hml, hown, hts⟩ (c_A_size l D cI cL cO a0 d0 (sz + 1) (mo + 1)) (cwV 0 hts (gBIG (m4 k_ml_M_46 k_im_A_size k_sel_A_size k_ini_A) k_co_A_size) rfl rfl rfl (by decide +kernel) ⟨Nat.le_of_ble_eq_true rfl, Nat.le_of_ble_eq_true rfl⟩) ⟨PR.bl, va_recv hK.1 ((P_app.mp hP).1) (ci := 4) (q0 := 0) rfl rfl, PR.pre ((P_app.mp hP).1) hK⟩ rfl rfl hl.1 rfl (lv_room (Nat.le_of_ble_eq_true rfl)) d_M_block_41 ⟨Nat.le_of_ble_eq_true rfl, Nat.le_of_ble_eq_true rfl⟩) ?_
    refine lv_iconst (v := 1) hx hb d_M_block_44 (by decide) ?_
    refine lv_isub hx hb d_M_block_45 ?_
    rw [hQ]; exact retMi (w1 := fun u : Nat × Nat × Nat × Nat × Nat × Nat => (wH a0 d0 (sz + 1) (mo + 1) ++ (wR cO d0 cap (va_up rf sz.toNatClampNeg (some u.1)) ++ (wB cI u.1 u.2.1 u.2.2.1 u.2.2.2.1 u.2.2.2.2.1 u.2.2.2.2.2 (fun _ => 0) (fun _ => 0) (fun _ => 0) (fun _ => 0) (fun _ => 0) 0 0 0 (-1) ++ (wX x0 lim a0 k0 u0 v0 t1 gen wrg rns als ++ fr))))) (q26, v30_0, v30_1, v30_2, v30_3, v30_4) hx hb hr hlocks hP hD hS rfl d_M_block_46
  · exact absurd h24 c_9

set_option maxHeartbeats 1000000 in
set_option maxRecDepth 100000 in
theorem c_M_blockf (l : Launch) (D : va_G) (cI cL cO : ClassId) (N t0 mi : Nat) (x0 : Nat) (lim : Int32) (a0 : Nat) (k0 : Nat) (u0 : Nat) (v0 : Nat) (t1 : Nat) (gen : Int32) (wrg : Int32) (rns : Int32) (als : Int32) (mo : Int32) (fr : va_W) (h24 : (0 : Int32) < 24) : CXi l y_M_block w_M_block ({ frames := 5, cells := 7, slots := 560, locals := 117 }) D cI cL cO N t0 mi [.ref x0] ((wX x0 lim a0 k0 u0 v0 t1 gen wrg rns als) ++ ((wH a0 t0 0 mo) ++ fr)) (fun (r : Int32) (u : Nat × Nat × Nat × Nat × Nat × Nat × Nat) => r = 0 + 1 - 1) (fun u : Nat × Nat × Nat × Nat × Nat × Nat × Nat => (wH a0 u.2.2.2.2.2.2 (0 + 1) (mo + 1) ++ (wR cO u.2.2.2.2.2.2 10 (va_up (fun _ => none) (0 : Int32).toNatClampNeg (some u.1)) ++ (wB cI u.1 u.2.1 u.2.2.1 u.2.2.2.1 u.2.2.2.2.1 u.2.2.2.2.2.1 (fun _ => 0) (fun _ => 0) (fun _ => 0) (fun _ => 0) (fun _ => 0) 0 0 0 (-1) ++ (wX x0 lim a0 k0 u0 v0 t1 gen wrg rns als ++ fr))))) 7 560 := by
  refine ofXi (cc := b_M_block) (maxL := 1) (ret := (some .int)) (by decide) rfl (Nat.le_of_ble_eq_true rfl) ?_
  intro p e s m below meth c A ls H Q hQ hx hb hr hlocks hin hts hown hml hP hK hD hS hA hl hE hN hAN
  have hl : lv_has ls 1 [(0, .ref x0)] := hl
  have hown : s.vm.findClass R_M = some m.cls := hown
  have ht : ∀ w ∈ BIG, w.before _ s = true := fun w h => hts w (List.mem_cons_of_mem _ h)
  refine lv_aload_n hx hb d_M_block_0 rfl (lv_at hl 0 rfl) ?_
  refine va_get (ci := 3) (v := .ref a0) (C := R_M) (T := T_M) (N := 10) hx hb ht in_M hown hK.1 hP 0 rfl rfl 1 (by decide) (ht _ k_fl_M_12) (fun _ h9 => h9) rfl d_M_block_1 ?_
  refine goRi (va_runV (As := []) (rest := []) ⟨hx, hb, hml, hown, hts⟩ (c_A_size l D cI cL cO a0 t0 0 mo) (cwV 0 hts (gBIG (m4 k_ml_M_46 k_im_A_size k_sel_A_size k_ini_A) k_co_A_size) rfl rfl rfl (by decide +kernel) ⟨Nat.le_of_ble_eq_true rfl, Nat.le_of_ble_eq_true rfl⟩) ⟨PR.bl, va_recv hK.1 ((P_app.mp (P_app.mp hP).2).1) (ci := 4) (q0 := 0) rfl rfl, PR.pre ((P_app.mp (P_app.mp hP).2).1) hK⟩ rfl rfl hl.1 rfl (lv_room (Nat.le_of_ble_eq_true rfl)) d_M_block_4 ⟨Nat.le_of_ble_eq_true rfl, Nat.le_of_ble_eq_true rfl⟩) ?_
  refine lv_bipush (v := 24) hx hb d_M_block_7 (by decide) ?_
  refine lv_icmp_lt (tgt := 22) hx hb d_M_block_9 (by decide) (fun c_9 => ?_) (fun c_9 => ?_)
  · refine lv_aload_n hx hb d_M_block_22 rfl (lv_at hl 0 rfl) ?_
    refine va_get (ci := 3) (v := .ref a0) (C := R_M) (T := T_M) (N := 10) hx hb ht in_M hown hK.1 hP 0 rfl rfl 1 (by decide) (ht _ k_fl_M_12) (fun _ h9 => h9) rfl d_M_block_23 ?_
    refine va_new (ci := 0) (fs := [.null, .null, .null, .null, .null, .int 0, .int 0, .int 0, .int 0]) (C := R_B) (T := T_B) (N := 9) hx hb ht in_B t_B t_B_ok hown (ht _ k_cl_M_57) (ht _ k_ins_B) (ht _ k_ini_B) hK.1 hP hD hS hA rfl (fun j hj => by rcases (show j = 0 ∨ j = 1 ∨ j = 2 ∨ j = 3 ∨ j = 4 ∨ j = 5 ∨ j = 6 ∨ j = 7 ∨ j = 8 by omega) with rfl | rfl | rfl | rfl | rfl | rfl | rfl | rfl | rfl <;> rfl) (Nat.le_of_ble_eq_true rfl) (Nat.le_of_ble_eq_true rfl) d_M_block_26 (fun q26 H hP hD hS => ?_)
    have hP := P_perm (List.perm_append_singleton _ _) hP
    have hD := D_perm (List.perm_append_singleton _ _) hD
    have hP : va_P D vwCl ([(q26, .inr (0, [.null, .null, .null, .null, .null, .int 0, .int 0, .int 0, .int 0]))] ++ ((wX x0 lim a0 k0 u0 v0 t1 gen wrg rns als) ++ ((wH a0 t0 0 mo) ++ fr))) H := hP
    have hD : va_D A ([(q26, .inr (0, [.null, .null, .null, .null, .null, .int 0, .int 0, .int 0, .int 0]))] ++ ((wX x0 lim a0 k0 u0 v0 t1 gen wrg rns als) ++ ((wH a0 t0 0 mo) ++ fr))) := hD
    refine lv_dup hx hb d_M_block_29 rfl ?_
    refine goMv (va_runIN (As := []) (rest := [.ref q26, .ref a0]) ⟨hx, hb, hml, hown, hts⟩ (c_B_init l D cI cL cO q26 ((wX x0 lim a0 k0 u0 v0 t1 gen wrg rns als) ++ ((wH a0 t0 0 mo) ++ fr))  H.size) ⟨va_cnB 0 hts (gB0 k_co_B_init) rfl rfl rfl (hK.2 _ n_ml_M_59) (ht _ k_ini_B) (by decide +kernel) ⟨Nat.le_of_ble_eq_true rfl, Nat.le_of_ble_eq_true rfl⟩, rfl, ht _ k_im_B_init⟩ ⟨PM.bl, PM.pre hP hD hK⟩ rfl rfl hl.1 rfl (lv_room (Nat.le_of_ble_eq_true rfl)) d_M_block_30 ⟨Nat.le_of_ble_eq_true rfl, Nat.le_of_ble_eq_true rfl⟩) hD hS hA (fun u H locs hw hP hD hS => ?_)
    obtain ⟨v30_0, v30_1, v30_2, v30_3, v30_4⟩ := u
    have hP : va_P D vwCl ((wB cI q26 v30_0 v30_1 v30_2 v30_3 v30_4 (fun _ => 0) (fun _ => 0) (fun _ => 0) (fun _ => 0) (fun _ => 0) 0 0 0 (-1)) ++ ((wX x0 lim a0 k0 u0 v0 t1 gen wrg rns als) ++ ((wH a0 t0 0 mo) ++ fr))) H := hP
    have hD : va_D A ((wB cI q26 v30_0 v30_1 v30_2 v30_3 v30_4 (fun _ => 0) (fun _ => 0) (fun _ => 0) (fun _ => 0) (fun _ => 0) 0 0 0 (-1)) ++ ((wX x0 lim a0 k0 u0 v0 t1 gen wrg rns als) ++ ((wH a0 t0 0 mo) ++ fr))) := hD
    have hP := P_sw1 hP
    have hD := D_sw1 hD
    have hP := P_sw hP
    have hD := D_sw hD
    refine goMi (va_runV (As := [.ref q26]) (rest := []) ⟨hx, hb, hml, hown, hts⟩ (c_A_addf l D cI cL cO N t0 mi a0 mo ((wB cI q26 v30_0 v30_1 v30_2 v30_3 v30_4 (fun _ => 0) (fun _ => 0) (fun _ => 0) (fun _ => 0) (fun _ => 0) 0 0 0 (-1)) ++ ((wX x0 lim a0 k0 u0 v0 t1 gen wrg rns als) ++ fr)) q26 (⟨_, List.mem_append_left _ List.mem_cons_self⟩) H.size) (cwV 1 hts (gBIG (m4 k_ml_M_60 k_im_A_add k_sel_A_add k_ini_A) k_co_A_add) rfl rfl rfl (by decide +kernel) ⟨Nat.le_of_ble_eq_true rfl, Nat.le_of_ble_eq_true rfl⟩) ⟨PX.bl, va_recv hK.1 hP (ci := 4) (q0 := 0) rfl rfl, PX.pre hP hD hK hE hS hAN hN⟩ rfl rfl hl.1 rfl (lv_room (Nat.le_of_ble_eq_true rfl)) d_M_block_33 ⟨Nat.le_of_ble_eq_true rfl, Nat.le_of_ble_eq_true rfl⟩) hD hS hA (fun r_33 u H locs hw hP hD hS => ?_)
    obtain ⟨v33_0, rfl⟩ : ∃ z, z = u := ⟨_, rfl⟩
    have hP : va_P D vwCl ((wH a0 v33_0 (0 + 1) (mo + 1)) ++ ((wR cO v33_0 10 (va_up (fun _ => none) (0 : Int32).toNatClampNeg (some q26))) ++ ((wB cI q26 v30_0 v30_1 v30_2 v30_3 v30_4 (fun _ => 0) (fun _ => 0) (fun _ => 0) (fun _ => 0) (fun _ => 0) 0 0 0 (-1)) ++ ((wX x0 lim a0 k0 u0 v0 t1 gen wrg rns als) ++ fr)))) H := hP
    have hD : va_D A ((wH a0 v33_0 (0 + 1) (mo + 1)) ++ ((wR cO v33_0 10 (va_up (fun _ => none) (0 : Int32).toNatClampNeg (some q26))) ++ ((wB cI q26 v30_0 v30_1 v30_2 v30_3 v30_4 (fun _ => 0) (fun _ => 0) (fun _ => 0) (fun _ => 0) (fun _ => 0) 0 0 0 (-1)) ++ ((wX x0 lim a0 k0 u0 v0 t1 gen wrg rns als) ++ fr)))) := hD
    obtain rfl : r_33 = 1 := hw
    refine lv_pop hx hb d_M_block_36 rfl ?_
    refine lv_aload_n hx hb d_M_block_37 rfl (lv_at hl 0 rfl) ?_
    refine va_get (ci := 3) (v := .ref a0) (C := R_M) (T := T_M) (N := 10) hx hb ht in_M hown hK.1 hP 8 rfl rfl 1 (by decide) (ht _ k_fl_M_12) (fun _ h9 => h9) rfl d_M_block_38 ?_
    refine goRi (va_runV (As := []) (rest := []) ⟨hx, hb, hml, hown, hts⟩ (c_A_size l D cI cL cO a0 v33_0 (0 + 1) (mo + 1)) (cwV 0 hts (gBIG (m4 k_ml_M_46 k_im_A_size k_sel_A_size k_ini_A) k_co_A_size) rfl rfl rfl (by decide +kernel) ⟨Nat.le_of_ble_eq_true rfl, Nat.le_of_ble_eq_true rfl⟩) ⟨PR.bl, va_recv hK.1 ((P_app.mp hP).1) (ci := 4) (q0 := 0) rfl rfl, PR.pre ((P_app.mp hP).1) hK⟩ rfl rfl hl.1 rfl (lv_room (Nat.le_of_ble_eq_true rfl)) d_M_block_41 ⟨Nat.le_of_ble_eq_true rfl, Nat.le_of_ble_eq_true rfl⟩) ?_
    refine lv_iconst (v := 1) hx hb d_M_block_44 (by decide) ?_
    refine lv_isub hx hb d_M_block_45 ?_
    rw [hQ]; exact retMi (w1 := fun u : Nat × Nat × Nat × Nat × Nat × Nat × Nat => (wH a0 u.2.2.2.2.2.2 (0 + 1) (mo + 1) ++ (wR cO u.2.2.2.2.2.2 10 (va_up (fun _ => none) (0 : Int32).toNatClampNeg (some u.1)) ++ (wB cI u.1 u.2.1 u.2.2.1 u.2.2.2.1 u.2.2.2.2.1 u.2.2.2.2.2.1 (fun _ => 0) (fun _ => 0) (fun _ => 0) (fun _ => 0) (fun _ => 0) 0 0 0 (-1) ++ (wX x0 lim a0 k0 u0 v0 t1 gen wrg rns als ++ fr))))) (q26, v30_0, v30_1, v30_2, v30_3, v30_4, v33_0) hx hb hr hlocks hP hD hS rfl d_M_block_46
  · exact absurd h24 c_9

set_option maxHeartbeats 1000000 in
set_option maxRecDepth 100000 in
theorem c_M_blockg (l : Launch) (D : va_G) (cI cL cO : ClassId) (N t0 mi : Nat) (x0 : Nat) (lim : Int32) (a0 : Nat) (k0 : Nat) (u0 : Nat) (v0 : Nat) (t1 : Nat) (gen : Int32) (wrg : Int32) (rns : Int32) (als : Int32) (d0 : Nat) (sz : Int32) (mo : Int32) (cap : Nat) (rf : Nat → Option Nat) (fr : va_W) (h24 : sz < 24) (cap2 : Nat) (hcp : 0 < cap) (hc : cap ≤ cap2) (hc2 : cap2 ≤ 40) (hel : elB rf cap fr) (hg : Int32.ofNat cap + maxF (sz + 1 - Int32.ofNat cap) (Int32.ofNat cap >>> ((1 : Int32) &&& 31)) = nI cap2) (hk : sz = Int32.ofNat cap) (hi : vp_in sz cap2) : CXi l y_M_block w_M_block ({ frames := 7, cells := 7, slots := 590, locals := 191 }) D cI cL cO N t0 mi [.ref x0] ((wX x0 lim a0 k0 u0 v0 t1 gen wrg rns als) ++ ((wH a0 d0 sz mo) ++ ((wR cO d0 cap rf) ++ fr))) (fun (r : Int32) (u : Nat × Nat × Nat × Nat × Nat × Nat × Nat) => r = sz + 1 - 1) (fun u : Nat × Nat × Nat × Nat × Nat × Nat × Nat => (wH a0 u.2.2.2.2.2.2 (sz + 1) (mo + 1) ++ (wR cO u.2.2.2.2.2.2 cap2 (va_up (va_cpy rf (fun _ => none) 0 0 cap) sz.toNatClampNeg (some u.1)) ++ (wB cI u.1 u.2.1 u.2.2.1 u.2.2.2.1 u.2.2.2.2.1 u.2.2.2.2.2.1 (fun _ => 0) (fun _ => 0) (fun _ => 0) (fun _ => 0) (fun _ => 0) 0 0 0 (-1) ++ (wX x0 lim a0 k0 u0 v0 t1 gen wrg rns als ++ fr))))) 7 590 := by
  refine ofXi (cc := b_M_block) (maxL := 1) (ret := (some .int)) (by decide) rfl (Nat.le_of_ble_eq_true rfl) ?_
  intro p e s m below meth c A ls H Q hQ hx hb hr hlocks hin hts hown hml hP hK hD hS hA hl hE hN hAN
  have hl : lv_has ls 1 [(0, .ref x0)] := hl
  have hown : s.vm.findClass R_M = some m.cls := hown
  have ht : ∀ w ∈ BIG, w.before _ s = true := fun w h => hts w (List.mem_cons_of_mem _ h)
  refine lv_aload_n hx hb d_M_block_0 rfl (lv_at hl 0 rfl) ?_
  refine va_get (ci := 3) (v := .ref a0) (C := R_M) (T := T_M) (N := 10) hx hb ht in_M hown hK.1 hP 0 rfl rfl 1 (by decide) (ht _ k_fl_M_12) (fun _ h9 => h9) rfl d_M_block_1 ?_
  refine goRi (va_runV (As := []) (rest := []) ⟨hx, hb, hml, hown, hts⟩ (c_A_size l D cI cL cO a0 d0 sz mo) (cwV 0 hts (gBIG (m4 k_ml_M_46 k_im_A_size k_sel_A_size k_ini_A) k_co_A_size) rfl rfl rfl (by decide +kernel) ⟨Nat.le_of_ble_eq_true rfl, Nat.le_of_ble_eq_true rfl⟩) ⟨PR.bl, va_recv hK.1 ((P_app.mp (P_app.mp hP).2).1) (ci := 4) (q0 := 0) rfl rfl, PR.pre ((P_app.mp (P_app.mp hP).2).1) hK⟩ rfl rfl hl.1 rfl (lv_room (Nat.le_of_ble_eq_true rfl)) d_M_block_4 ⟨Nat.le_of_ble_eq_true rfl, Nat.le_of_ble_eq_true rfl⟩) ?_
  refine lv_bipush (v := 24) hx hb d_M_block_7 (by decide) ?_
  refine lv_icmp_lt (tgt := 22) hx hb d_M_block_9 (by decide) (fun c_9 => ?_) (fun c_9 => ?_)
  · refine lv_aload_n hx hb d_M_block_22 rfl (lv_at hl 0 rfl) ?_
    refine va_get (ci := 3) (v := .ref a0) (C := R_M) (T := T_M) (N := 10) hx hb ht in_M hown hK.1 hP 0 rfl rfl 1 (by decide) (ht _ k_fl_M_12) (fun _ h9 => h9) rfl d_M_block_23 ?_
    refine va_new (ci := 0) (fs := [.null, .null, .null, .null, .null, .int 0, .int 0, .int 0, .int 0]) (C := R_B) (T := T_B) (N := 9) hx hb ht in_B t_B t_B_ok hown (ht _ k_cl_M_57) (ht _ k_ins_B) (ht _ k_ini_B) hK.1 hP hD hS hA rfl (fun j hj => by rcases (show j = 0 ∨ j = 1 ∨ j = 2 ∨ j = 3 ∨ j = 4 ∨ j = 5 ∨ j = 6 ∨ j = 7 ∨ j = 8 by omega) with rfl | rfl | rfl | rfl | rfl | rfl | rfl | rfl | rfl <;> rfl) (Nat.le_of_ble_eq_true rfl) (Nat.le_of_ble_eq_true rfl) d_M_block_26 (fun q26 H hP hD hS => ?_)
    have hP := P_perm (List.perm_append_singleton _ _) hP
    have hD := D_perm (List.perm_append_singleton _ _) hD
    have hP : va_P D vwCl ([(q26, .inr (0, [.null, .null, .null, .null, .null, .int 0, .int 0, .int 0, .int 0]))] ++ ((wX x0 lim a0 k0 u0 v0 t1 gen wrg rns als) ++ ((wH a0 d0 sz mo) ++ ((wR cO d0 cap rf) ++ fr)))) H := hP
    have hD : va_D A ([(q26, .inr (0, [.null, .null, .null, .null, .null, .int 0, .int 0, .int 0, .int 0]))] ++ ((wX x0 lim a0 k0 u0 v0 t1 gen wrg rns als) ++ ((wH a0 d0 sz mo) ++ ((wR cO d0 cap rf) ++ fr)))) := hD
    refine lv_dup hx hb d_M_block_29 rfl ?_
    refine goMv (va_runIN (As := []) (rest := [.ref q26, .ref a0]) ⟨hx, hb, hml, hown, hts⟩ (c_B_init l D cI cL cO q26 ((wX x0 lim a0 k0 u0 v0 t1 gen wrg rns als) ++ ((wH a0 d0 sz mo) ++ ((wR cO d0 cap rf) ++ fr)))  H.size) ⟨va_cnB 0 hts (gB0 k_co_B_init) rfl rfl rfl (hK.2 _ n_ml_M_59) (ht _ k_ini_B) (by decide +kernel) ⟨Nat.le_of_ble_eq_true rfl, Nat.le_of_ble_eq_true rfl⟩, rfl, ht _ k_im_B_init⟩ ⟨PM.bl, PM.pre hP hD hK⟩ rfl rfl hl.1 rfl (lv_room (Nat.le_of_ble_eq_true rfl)) d_M_block_30 ⟨Nat.le_of_ble_eq_true rfl, Nat.le_of_ble_eq_true rfl⟩) hD hS hA (fun u H locs hw hP hD hS => ?_)
    obtain ⟨v30_0, v30_1, v30_2, v30_3, v30_4⟩ := u
    have hP : va_P D vwCl ((wB cI q26 v30_0 v30_1 v30_2 v30_3 v30_4 (fun _ => 0) (fun _ => 0) (fun _ => 0) (fun _ => 0) (fun _ => 0) 0 0 0 (-1)) ++ ((wX x0 lim a0 k0 u0 v0 t1 gen wrg rns als) ++ ((wH a0 d0 sz mo) ++ ((wR cO d0 cap rf) ++ fr)))) H := hP
    have hD : va_D A ((wB cI q26 v30_0 v30_1 v30_2 v30_3 v30_4 (fun _ => 0) (fun _ => 0) (fun _ => 0) (fun _ => 0) (fun _ => 0) 0 0 0 (-1)) ++ ((wX x0 lim a0 k0 u0 v0 t1 gen wrg rns als) ++ ((wH a0 d0 sz mo) ++ ((wR cO d0 cap rf) ++ fr)))) := hD
    have hP := P_sw1 hP
    have hD := D_sw1 hD
    have hP := P_sw hP
    have hD := D_sw hD
    have hP := P_sw2 hP
    have hD := D_sw2 hD
    have hP := P_sw1 hP
    have hD := D_sw1 hD
    refine goMi (va_runV (As := [.ref q26]) (rest := []) ⟨hx, hb, hml, hown, hts⟩ (c_A_addg l D cI cL cO N t0 mi a0 d0 sz mo cap rf ((wB cI q26 v30_0 v30_1 v30_2 v30_3 v30_4 (fun _ => 0) (fun _ => 0) (fun _ => 0) (fun _ => 0) (fun _ => 0) 0 0 0 (-1)) ++ ((wX x0 lim a0 k0 u0 v0 t1 gen wrg rns als) ++ fr)) q26 cap2 hcp hc hc2 (elB_app _ (elB_app _ hel)) hg hk hi (⟨_, List.mem_append_left _ List.mem_cons_self⟩) H.size) (cwV 1 hts (gBIG (m4 k_ml_M_60 k_im_A_add k_sel_A_add k_ini_A) k_co_A_add) rfl rfl rfl (by decide +kernel) ⟨Nat.le_of_ble_eq_true rfl, Nat.le_of_ble_eq_true rfl⟩) ⟨PX.bl, va_recv hK.1 hP (ci := 4) (q0 := 0) rfl rfl, PX.pre hP hD hK hE hS hAN hN⟩ rfl rfl hl.1 rfl (lv_room (Nat.le_of_ble_eq_true rfl)) d_M_block_33 ⟨Nat.le_of_ble_eq_true rfl, Nat.le_of_ble_eq_true rfl⟩) hD hS hA (fun r_33 u H locs hw hP hD hS => ?_)
    obtain ⟨v33_0, rfl⟩ : ∃ z, z = u := ⟨_, rfl⟩
    have hP : va_P D vwCl ((wH a0 v33_0 (sz + 1) (mo + 1)) ++ ((wR cO v33_0 cap2 (va_up (va_cpy rf (fun _ => none) 0 0 cap) sz.toNatClampNeg (some q26))) ++ ((wB cI q26 v30_0 v30_1 v30_2 v30_3 v30_4 (fun _ => 0) (fun _ => 0) (fun _ => 0) (fun _ => 0) (fun _ => 0) 0 0 0 (-1)) ++ ((wX x0 lim a0 k0 u0 v0 t1 gen wrg rns als) ++ fr)))) H := hP
    have hD : va_D A ((wH a0 v33_0 (sz + 1) (mo + 1)) ++ ((wR cO v33_0 cap2 (va_up (va_cpy rf (fun _ => none) 0 0 cap) sz.toNatClampNeg (some q26))) ++ ((wB cI q26 v30_0 v30_1 v30_2 v30_3 v30_4 (fun _ => 0) (fun _ => 0) (fun _ => 0) (fun _ => 0) (fun _ => 0) 0 0 0 (-1)) ++ ((wX x0 lim a0 k0 u0 v0 t1 gen wrg rns als) ++ fr)))) := hD
    obtain rfl : r_33 = 1 := hw
    refine lv_pop hx hb d_M_block_36 rfl ?_
    refine lv_aload_n hx hb d_M_block_37 rfl (lv_at hl 0 rfl) ?_
    refine va_get (ci := 3) (v := .ref a0) (C := R_M) (T := T_M) (N := 10) hx hb ht in_M hown hK.1 hP 8 rfl rfl 1 (by decide) (ht _ k_fl_M_12) (fun _ h9 => h9) rfl d_M_block_38 ?_
    refine goRi (va_runV (As := []) (rest := []) ⟨hx, hb, hml, hown, hts⟩ (c_A_size l D cI cL cO a0 v33_0 (sz + 1) (mo + 1)) (cwV 0 hts (gBIG (m4 k_ml_M_46 k_im_A_size k_sel_A_size k_ini_A) k_co_A_size) rfl rfl rfl (by decide +kernel) ⟨Nat.le_of_ble_eq_true rfl, Nat.le_of_ble_eq_true rfl⟩) ⟨PR.bl, va_recv hK.1 ((P_app.mp hP).1) (ci := 4) (q0 := 0) rfl rfl, PR.pre ((P_app.mp hP).1) hK⟩ rfl rfl hl.1 rfl (lv_room (Nat.le_of_ble_eq_true rfl)) d_M_block_41 ⟨Nat.le_of_ble_eq_true rfl, Nat.le_of_ble_eq_true rfl⟩) ?_
    refine lv_iconst (v := 1) hx hb d_M_block_44 (by decide) ?_
    refine lv_isub hx hb d_M_block_45 ?_
    rw [hQ]; exact retMi (w1 := fun u : Nat × Nat × Nat × Nat × Nat × Nat × Nat => (wH a0 u.2.2.2.2.2.2 (sz + 1) (mo + 1) ++ (wR cO u.2.2.2.2.2.2 cap2 (va_up (va_cpy rf (fun _ => none) 0 0 cap) sz.toNatClampNeg (some u.1)) ++ (wB cI u.1 u.2.1 u.2.2.1 u.2.2.2.1 u.2.2.2.2.1 u.2.2.2.2.2.1 (fun _ => 0) (fun _ => 0) (fun _ => 0) (fun _ => 0) (fun _ => 0) 0 0 0 (-1) ++ (wX x0 lim a0 k0 u0 v0 t1 gen wrg rns als ++ fr))))) (q26, v30_0, v30_1, v30_2, v30_3, v30_4, v33_0) hx hb hr hlocks hP hD hS rfl d_M_block_46
  · exact absurd h24 c_9

set_option maxHeartbeats 1000000 in
set_option maxRecDepth 100000 in
theorem c_M_blockU (l : Launch) (D : va_G) (cI cL cO : ClassId) (N t0 mi : Nat) (hl0 : l.stackTraces = false) (x0 : Nat) (lim : Int32) (a0 : Nat) (k0 : Nat) (u0 : Nat) (v0 : Nat) (t1 : Nat) (gen : Int32) (wrg : Int32) (rns : Int32) (als : Int32) (d0 : Nat) (sz : Int32) (mo : Int32) (fr : va_W) (h24 : ¬ sz < 24) : CT l y_M_block w_M_block ({ frames := 6, cells := 1, slots := 6, locals := 82 }) D cI cL cO N t0 mi [.ref x0] ((wX x0 lim a0 k0 u0 v0 t1 gen wrg rns als) ++ ((wH a0 d0 sz mo) ++ fr)) "java/lang/UnsupportedOperationException" (fun u : Unit => ((wX x0 lim a0 k0 u0 v0 t1 gen wrg rns als) ++ ((wH a0 d0 sz mo) ++ fr))) 1 6 := by
  refine ofT (cc := b_M_block) (maxL := 1) (ret := (some .int)) (by decide) rfl (Nat.le_of_ble_eq_true rfl) ?_
  intro p e s m below meth c A ls H Q hQ hx hb hr hlocks hmt hts hown hml hP hK hD hS hA hl hE hN hAN
  have hl : lv_has ls 1 [(0, .ref x0)] := hl
  have hown : s.vm.findClass R_M = some m.cls := hown
  have ht : ∀ w ∈ BIG, w.before _ s = true := fun w h => hts w (List.mem_cons_of_mem _ h)
  refine lv_aload_n hx hb d_M_block_0 rfl (lv_at hl 0 rfl) ?_
  refine va_get (ci := 3) (v := .ref a0) (C := R_M) (T := T_M) (N := 10) hx hb ht in_M hown hK.1 hP 0 rfl rfl 1 (by decide) (ht _ k_fl_M_12) (fun _ h9 => h9) rfl d_M_block_1 ?_
  refine goRi (va_runV (As := []) (rest := []) ⟨hx, hb, hml, hown, hts⟩ (c_A_size l D cI cL cO a0 d0 sz mo) (cwV 0 hts (gBIG (m4 k_ml_M_46 k_im_A_size k_sel_A_size k_ini_A) k_co_A_size) rfl rfl rfl (by decide +kernel) ⟨Nat.le_of_ble_eq_true rfl, Nat.le_of_ble_eq_true rfl⟩) ⟨PR.bl, va_recv hK.1 ((P_app.mp (P_app.mp hP).2).1) (ci := 4) (q0 := 0) rfl rfl, PR.pre ((P_app.mp (P_app.mp hP).2).1) hK⟩ rfl rfl hl.1 rfl (lv_room (Nat.le_of_ble_eq_true rfl)) d_M_block_4 ⟨Nat.le_of_ble_eq_true rfl, Nat.le_of_ble_eq_true rfl⟩) ?_
  refine lv_bipush (v := 24) hx hb d_M_block_7 (by decide) ?_
  refine lv_icmp_lt (tgt := 22) hx hb d_M_block_9 (by decide) (fun c_9 => ?_) (fun c_9 => ?_)
  · exact absurd c_9 h24
  · rw [hQ]; exact w_throw (X := "java/lang/UnsupportedOperationException") (tx := "there are twenty-four blocks") (ic := 54) (ik := 50) (is := 52) (N := N) hx hb hl0 hlocks hown th1 kx4_U ht hE.1 (by decide) kx1_U kx2_U kx3_U hmt (hl.1.trans hml.symm) hS hAN hN d_M_block_12 d_M_block_15 d_M_block_16 d_M_block_18 d_M_block_21 (Nat.le_of_ble_eq_true rfl) (Nat.le_of_ble_eq_true rfl) (Nat.le_of_ble_eq_true rfl) (Nat.le_of_ble_eq_true rfl) (fun H1 up => ⟨(), P_up hP up, hD⟩)
