/-- where instruction i's first code stands -/
def stN (o e : Fn) : Nat → Int32
  | 0 => 0
  | i + 1 => stN o e i + bytesF (o i) (e i)
theorem by11 (o b : Int32) : (bytesF o b).toInt ≤ 11 := by
  unfold bytesF
  split
  · split <;> decide
  · split
    · decide
    · split
      · decide
      · have := lenOf_rng (o + 3)
        have e1 : (2 * lenOf 1).toInt = 4 := by decide
        have e2 : (lenOf 2).toInt = 2 := by decide
        have e3 : (2 * lenOf 1 + lenOf (o + 3)).toInt = 4 + (lenOf (o + 3)).toInt := by rw [i32_add (by omega) (by omega), e1]
        rw [i32_add (by omega) (by omega)]
        omega
theorem stN_r (o e : Fn) : ∀ i : Nat, i ≤ 100 → 0 ≤ (stN o e i).toInt ∧ (stN o e i).toInt ≤ 11 * (i : Int) := by
  intro i
  induction i with
  | zero => intro _; exact ⟨(by decide : 0 ≤ (0 : Int32).toInt), (by decide : (0 : Int32).toInt ≤ 11 * ((0 : Nat) : Int))⟩
  | succ i ih =>
    intro h
    have h1 := ih (by omega)
    have h2 := by7 (o i) (e i)
    have h3 := by11 (o i) (e i)
    show 0 ≤ (stN o e i + bytesF (o i) (e i)).toInt ∧ (stN o e i + bytesF (o i) (e i)).toInt ≤ 11 * ((i + 1 : Nat) : Int)
    rw [i32_add (by omega) (by omega)]
    omega
theorem stN_s (o e : Fn) (i : Nat) (h : i < 100) : (stN o e (i + 1)).toInt = (stN o e i).toInt + (bytesF (o i) (e i)).toInt := by
  have h1 := stN_r o e i (by omega)
  have h2 := by7 (o i) (e i)
  have h3 := by11 (o i) (e i)
  exact i32_add (by omega) (by omega)
theorem stN_m (o e : Fn) (i : Nat) : ∀ d : Nat, i + d ≤ 100 → (stN o e i).toInt ≤ (stN o e (i + d)).toInt := by
  intro d
  induction d with
  | zero => intro _; exact Int.le_refl _
  | succ d ih =>
    intro h
    have h1 := ih (by omega)
    have h2 := stN_s o e (i + d) (by omega)
    have h3 := by7 (o (i + d)) (e (i + d))
    rw [← Nat.add_assoc, h2]
    omega
theorem stN_lt {o e : Fn} {i m : Nat} (h : i < m) (hm : m ≤ 100) : (stN o e i).toInt + (bytesF (o i) (e i)).toInt ≤ (stN o e m).toInt := by
  rw [← stN_s o e i (by omega)]
  have := stN_m o e (i + 1) (m - (i + 1)) (by omega)
  rw [show i + 1 + (m - (i + 1)) = m by omega] at this
  exact this
theorem zby_eq {o a b : Int32} (h : okI o a b) : zbyF o b = bytesF o b := by
  unfold zbyF
  by_cases q0 : o = 0
  · rw [if_pos q0]
    by_cases w : wiF b (-128) 127 = 0
    · rw [if_pos w]; exact i32_ext (by rw [byL7 q0 w]; decide)
    · rw [if_neg w]; exact i32_ext (by rw [byS q0 w]; decide)
  · rw [if_neg q0]
    by_cases q6 : o = 6
    · rw [if_pos q6]; exact i32_ext (by rw [byJ q6]; decide)
    · rw [if_neg q6]
      by_cases c : (6 : Int32) ≤ o
      · rw [if_pos c]; exact i32_ext (by rw [(byM h q6 c).2]; decide)
      · rw [if_neg c]; exact i32_ext (by rw [(byA h q0 c).1]; decide)
def okA (mn oo oa ob : Fn) : Prop := ∀ k : Int32, 0 ≤ k.toInt ∧ k.toInt < 24 ∧ True → okB (vw 60 oo k) (vw 60 oa k) (vw 60 ob k) (mn k.toNatClampNeg)
theorem cl1 {i : Int32} (h0 : 0 ≤ i.toInt) (h1 : i.toInt < 2147483647) : (i + 1).toNatClampNeg = i.toNatClampNeg + 1 := by
  have e := i32_1 h1
  have a := clN h0
  have b := clN (i := i + 1) (by omega)
  omega
/-- what make does: (answer, thrown, states, bytes, sizes, generations) -/
def zmkP (k bl nw : Int32) (mn oo oa ob ss gg zz md : Fn) (r th : Int32) (ss' md' zz' gg' : Fn) : Prop :=
  (wiF k 0 (bl - 1) = 0 ∧ r = 0 ∧ th = 1 ∧ ss' = ss ∧ md' = md ∧ zz' = zz ∧ gg' = gg) ∨
  (¬ wiF k 0 (bl - 1) = 0 ∧ th = 0 ∧ ((¬ stN (vw 60 oo k) (vw 60 ob k) (mn k.toNatClampNeg).toNatClampNeg + 1 ≤ 300 ∧ r = -1 ∧ ss' = upd ss k.toNatClampNeg 0 ∧ md' = md ∧ zz' = zz ∧ gg' = gg) ∨
    (stN (vw 60 oo k) (vw 60 ob k) (mn k.toNatClampNeg).toNatClampNeg + 1 ≤ 300 ∧ (vw 300 md' k, r) = wrA (vw 60 oo k) (vw 60 oa k) (vw 60 ob k) (stN (vw 60 oo k) (vw 60 ob k)) (mn k.toNatClampNeg) (vw 300 md k) ∧ MF k md md' ∧ ss' = upd (upd ss k.toNatClampNeg 0) k.toNatClampNeg 1 ∧ zz' = upd zz k.toNatClampNeg r ∧ gg' = upd gg k.toNatClampNeg nw)))

theorem mk_s {f T : Fn} {i v : Int32} (h0 : 0 ≤ i.toInt) (h1 : i.toInt < 2147483647) (h : ∀ j : Nat, (j : Int) < i.toInt → f j = T j) (hv : v = T i.toNatClampNeg) (j : Nat) (hj : (j : Int) < (i + 1).toInt) : upd f i.toNatClampNeg v j = T j := by
  rw [i32_1 h1] at hj
  have := clN h0
  by_cases e : j = i.toNatClampNeg
  · rw [e, pk_us]; exact hv
  · rw [pk_un e]; exact h j (by omega)
theorem mk_e {f T : Fn} {i m v : Int32} (h0 : 0 ≤ i.toInt) (hm : i.toInt ≤ m.toInt) (c : m ≤ i) (h : ∀ j : Nat, (j : Int) < i.toInt → f j = T j) (hv : v = T i.toNatClampNeg) : (∀ j : Nat, (j : Int) ≤ m.toInt → upd f m.toNatClampNeg v j = T j) ∧ v = T m.toNatClampNeg := by
  rw [Int32.le_iff_toInt_le] at c
  have e : i = m := i32_ext (by omega)
  subst e
  refine ⟨fun j hj => ?_, hv⟩
  have := clN h0
  by_cases q : j = i.toNatClampNeg
  · rw [q, pk_us]; exact hv
  · rw [pk_un q]; exact h j (by omega)

theorem mk_9 {n : Nat} {v w : Int32} (e : v = w) (c : v + 1 ≤ 300) (h : 0 ≤ w.toInt ∧ w.toInt ≤ 11 * (n : Int) ∧ n ≤ 100) : w.toInt + 1 ≤ 300 := by
  subst e
  rw [Int32.le_iff_toInt_le, i32_1 (by omega), show (300 : Int32).toInt = 300 by decide] at c
  exact c

theorem mk_n {o e : Fn} {m : Int32} (h : 0 ≤ m.toInt ∧ m.toInt ≤ 60) : 0 ≤ (stN o e m.toNatClampNeg).toInt ∧ (stN o e m.toNatClampNeg).toInt ≤ 11 * (m.toNatClampNeg : Int) ∧ m.toNatClampNeg ≤ 100 := by
  have a := clN h.1
  have b := stN_r o e m.toNatClampNeg (by omega)
  exact ⟨b.1, b.2, by omega⟩

theorem i_pos {x y : Int32} (h : x ≤ y) : x.toInt ≤ y.toInt := by rw [Int32.le_iff_toInt_le] at h; exact h

abbrev w_Z_make : List Cond := .code y_Z_make b_Z_make 4 (some .int) :: BIG
set_option maxHeartbeats 1000000 in
set_option maxRecDepth 100000 in
theorem c_Z_make (l : Launch) (D : va_G) (cI cL cO : ClassId) (z0 : Nat) (y1 : Nat) (y2 : Nat) (y3 : Nat) (y4 : Nat) (y5 : Nat) (y6 : Nat) (y7 : Nat) (y8 : Nat) (y9 : Nat) (y10 : Nat) (y11 : Nat) (y12 : Nat) (y13 : Nat) (y14 : Nat) (mn : Fn) (oo : Fn) (oa : Fn) (ob : Fn) (ss : Fn) (gg : Fn) (zz : Fn) (md : Fn) (sd : Fn) (da : Fn) (rg : FL) (pp : FL) (kp : FL) (ot : FL) (th : Int32) (li : Int32) (bl : Int32) (nw : Int32) (wr : Int32) (ru : Int32) (al : Int32) (sp : Int32) (en : Int32) (ke : Int32) (kb : Int32) (at0 : Int32) (fr : va_W) (k : Int32) (hbl : 0 ≤ bl.toInt ∧ bl.toInt ≤ 24) (hmn : ∀ j, j < 24 → 0 ≤ (mn j).toInt ∧ (mn j).toInt ≤ 60) (hokA : okA mn oo oa ob) : CMi l y_Z_make w_Z_make ({ frames := 3, cells := 0, slots := 0, locals := 69 }) D cI cL cO [.ref z0, .int k] ((wZ cI cL z0 y1 y2 y3 y4 y5 y6 y7 y8 y9 y10 y11 y12 y13 y14 mn oo oa ob ss gg zz md sd da rg pp kp ot th li bl nw wr ru al sp en ke kb at0) ++ fr) (fun (r : Int32) (u : Int32 × Fn × Fn × Int32 × Fn × Fn × Fn) => zmkP k bl nw mn oo oa ob ss gg zz md r u.1 u.2.2.1 u.2.2.2.2.1 u.2.2.2.2.2.1 u.2.2.2.2.2.2) (fun u : Int32 × Fn × Fn × Int32 × Fn × Fn × Fn => ((wZ cI cL z0 y1 y2 y3 y4 y5 y6 y7 y8 y9 y10 y11 y12 y13 y14 mn oo oa ob u.2.2.1 u.2.2.2.2.2.2 u.2.2.2.2.2.1 u.2.2.2.2.1 u.2.1 da rg pp kp ot u.1 li bl nw wr ru al sp en ke kb u.2.2.2.1) ++ fr)) 0 0 := by
  refine ofMi (cc := b_Z_make) (maxL := 4) (ret := (some .int)) (by decide) rfl (Nat.le_of_ble_eq_true rfl) ?_
  intro p e s m below meth c A ls H Q hQ hx hb hr hlocks hin hts hown hml hP hK hD hS hA hl
  have hl : lv_has ls 4 [(0, .ref z0), (1, .int k)] := hl
  have hown : s.vm.findClass R_Z = some m.cls := hown
  have ht : ∀ w ∈ BIG, w.before _ s = true := fun w h => hts w (List.mem_cons_of_mem _ h)
  refine lv_aload_n hx hb d_Z_make_0 rfl (lv_at hl 0 rfl) ?_
  refine lv_iload_n hx hb d_Z_make_1 rfl (lv_at hl 1 rfl) ?_
  refine goMi (va_runV (As := [.int k]) (rest := []) ⟨hx, hb, hml, hown, hts⟩ (c_Z_isBlock l D cI cL cO z0 y1 y2 y3 y4 y5 y6 y7 y8 y9 y10 y11 y12 y13 y14 mn oo oa ob ss gg zz md sd da rg pp kp ot th li bl nw wr ru al sp en ke kb at0 fr k H.size) (cwV 1 hts (gBIG (m4 k_ml_Z_71 k_im_Z_isBlock k_sel_Z_isBlock k_ini_Z) k_co_Z_isBlock) rfl rfl rfl (by decide +kernel) ⟨Nat.le_of_ble_eq_true rfl, Nat.le_of_ble_eq_true rfl⟩) ⟨PM.bl, va_recv hK.1 hP (ci := 5) (q0 := 0) rfl rfl, PM.pre hP hD hK⟩ rfl rfl hl.1 rfl (lv_room (Nat.le_of_ble_eq_true rfl)) d_Z_make_2 ⟨Nat.le_of_ble_eq_true rfl, Nat.le_of_ble_eq_true rfl⟩) hD hS hA (fun r_2 u H locs hw hP hD hS => ?_)
  obtain ⟨rfl, rfl⟩ := hw
  have hP : va_P D vwCl ((wZ cI cL z0 y1 y2 y3 y4 y5 y6 y7 y8 y9 y10 y11 y12 y13 y14 mn oo oa ob ss gg zz md sd da rg pp kp ot (if wiF k 0 (bl - 1) = 0 then 1 else 0) li bl nw wr ru al sp en ke kb at0) ++ fr) H := hP
  have hD : va_D A ((wZ cI cL z0 y1 y2 y3 y4 y5 y6 y7 y8 y9 y10 y11 y12 y13 y14 mn oo oa ob ss gg zz md sd da rg pp kp ot (if wiF k 0 (bl - 1) = 0 then 1 else 0) li bl nw wr ru al sp en ke kb at0) ++ fr) := hD
  refine lv_if_ne (tgt := 10) hx hb d_Z_make_5 (by decide) (fun c_5 => ?_) (fun c_5 => ?_)
  · refine lv_iconst (v := 0) hx hb d_Z_make_10 (by decide) ?_
    refine lv_istore_n (lv' := [(2, .int 0), (0, .ref z0), (1, .int k)]) hx hb d_Z_make_11 rfl hl (by decide) rfl (fun ls hl => ?_)
    refine lv_iconst (v := 0) hx hb d_Z_make_12 (by decide) ?_
    refine lv_istore_n (lv' := [(3, .int 0), (2, .int 0), (0, .ref z0), (1, .int k)]) hx hb d_Z_make_13 rfl hl (by decide) rfl (fun ls hl => ?_)
    have lp : ∀ (n : Nat) (n1 : Int32) (i : Int32) (sd1 : Fn) (H : Heap) (locs : List Loc) (ls : Array Slot), (i.toInt + (n : Int) = 61) → (0 ≤ i.toInt ∧ i.toInt ≤ (mn k.toNatClampNeg).toInt) → (∀ j : Nat, (j : Int) < i.toInt → sd1 j = stN (vw 60 oo k) (vw 60 ob k) j) → (n1 = stN (vw 60 oo k) (vw 60 ob k) i.toNatClampNeg) → va_P D vwCl ((wZ cI cL z0 y1 y2 y3 y4 y5 y6 y7 y8 y9 y10 y11 y12 y13 y14 mn oo oa ob ss gg zz md sd1 da rg pp kp ot (if wiF k 0 (bl - 1) = 0 then 1 else 0) li bl nw wr ru al sp en ke kb at0) ++ fr) H → va_D A ((wZ cI cL z0 y1 y2 y3 y4 y5 y6 y7 y8 y9 y10 y11 y12 y13 y14 mn oo oa ob ss gg zz md sd1 da rg pp kp ot (if wiF k 0 (bl - 1) = 0 then 1 else 0) li bl nw wr ru al sp en ke kb at0) ++ fr) → va_S A s.heap H locs → lv_has ls 4 [(0, .ref z0), (1, .int k), (2, .int n1), (3, .int i)] → W p l e ({ frames := 3, cells := 0, slots := 0, locals := 69 } : Room) s m ([.ref z0, .int k] : List Value).toArray below meth c H locs 0 0 Q (F0 m 14 ls []) := by
      intro n
      induction n with
      | zero =>
        intro n1 i sd1 H locs ls hn hi hs1 hnn hP hD hS hl
        exact absurd hn (by have := (hmn _ (kc (k_t (wi_k hbl c_5)))).2; omega)
      | succ n ih =>
        intro n1 i sd1 H locs ls hn hi hs1 hnn hP hD hS hl
        refine lv_iload_n hx hb d_Z_make_14 rfl (lv_at hl 3 rfl) ?_
        refine lv_aload_n hx hb d_Z_make_15 rfl (lv_at hl 0 rfl) ?_
        refine va_get (ci := 5) (v := .ref y1) (C := R_Z) (T := T_Z) (N := 26) hx hb ht in_Z hown hK.1 hP 0 rfl rfl 7 (by decide) (ht _ k_fl_Z_7) (fun _ h9 => h9) rfl d_Z_make_16 ?_
        refine lv_iload_n hx hb d_Z_make_19 rfl (lv_at hl 1 rfl) ?_
        refine va_iald hx hb hK.1 hP 1 0 rfl rfl (in_k (k_t (wi_k hbl c_5))) d_Z_make_20 ?_
        refine lv_icmp_ge (tgt := 65) hx hb d_Z_make_21 (by decide) (fun c_21 => ?_) (fun c_21 => ?_)
        · obtain ⟨hsd, hn1⟩ := mk_e hi.1 hi.2 c_21 hs1 hnn
          refine lv_aload_n hx hb d_Z_make_65 rfl (lv_at hl 0 rfl) ?_
          refine va_get (ci := 5) (v := .ref y9) (C := R_Z) (T := T_Z) (N := 26) hx hb ht in_Z hown hK.1 hP 0 rfl rfl 15 (by decide) (ht _ k_fl_Z_34) (fun _ h9 => h9) rfl d_Z_make_66 ?_
          refine lv_aload_n hx hb d_Z_make_69 rfl (lv_at hl 0 rfl) ?_
          refine va_get (ci := 5) (v := .ref y1) (C := R_Z) (T := T_Z) (N := 26) hx hb ht in_Z hown hK.1 hP 0 rfl rfl 7 (by decide) (ht _ k_fl_Z_7) (fun _ h9 => h9) rfl d_Z_make_70 ?_
          refine lv_iload_n hx hb d_Z_make_73 rfl (lv_at hl 1 rfl) ?_
          refine va_iald hx hb hK.1 hP 1 0 rfl rfl (in_k (k_t (wi_k hbl c_5))) d_Z_make_74 ?_
          refine lv_iload_n hx hb d_Z_make_75 rfl (lv_at hl 2 rfl) ?_
          refine va_iast hx hb hK.1 hP hD hS 9 0 rfl rfl (in61 (hmn _ (kc (k_t (wi_k hbl c_5)))).1 (hmn _ (kc (k_t (wi_k hbl c_5)))).2) d_Z_make_76 (fun H locs hP hD hS => ?_)
          have hP : va_P D vwCl ((wZ cI cL z0 y1 y2 y3 y4 y5 y6 y7 y8 y9 y10 y11 y12 y13 y14 mn oo oa ob ss gg zz md (upd sd1 (mn k.toNatClampNeg).toNatClampNeg n1) da rg pp kp ot (if wiF k 0 (bl - 1) = 0 then 1 else 0) li bl nw wr ru al sp en ke kb at0) ++ fr) H := hP
          have hD : va_D A ((wZ cI cL z0 y1 y2 y3 y4 y5 y6 y7 y8 y9 y10 y11 y12 y13 y14 mn oo oa ob ss gg zz md (upd sd1 (mn k.toNatClampNeg).toNatClampNeg n1) da rg pp kp ot (if wiF k 0 (bl - 1) = 0 then 1 else 0) li bl nw wr ru al sp en ke kb at0) ++ fr) := hD
          refine lv_aload_n hx hb d_Z_make_77 rfl (lv_at hl 0 rfl) ?_
          refine va_get (ci := 5) (v := .ref y5) (C := R_Z) (T := T_Z) (N := 26) hx hb ht in_Z hown hK.1 hP 0 rfl rfl 11 (by decide) (ht _ k_fl_Z_22) (fun _ h9 => h9) rfl d_Z_make_78 ?_
          refine lv_iload_n hx hb d_Z_make_81 rfl (lv_at hl 1 rfl) ?_
          refine lv_iconst (v := 0) hx hb d_Z_make_82 (by decide) ?_
          refine va_iast hx hb hK.1 hP hD hS 5 0 rfl rfl (in_k (k_t (wi_k hbl c_5))) d_Z_make_83 (fun H locs hP hD hS => ?_)
          have hP : va_P D vwCl ((wZ cI cL z0 y1 y2 y3 y4 y5 y6 y7 y8 y9 y10 y11 y12 y13 y14 mn oo oa ob (upd ss k.toNatClampNeg 0) gg zz md (upd sd1 (mn k.toNatClampNeg).toNatClampNeg n1) da rg pp kp ot (if wiF k 0 (bl - 1) = 0 then 1 else 0) li bl nw wr ru al sp en ke kb at0) ++ fr) H := hP
          have hD : va_D A ((wZ cI cL z0 y1 y2 y3 y4 y5 y6 y7 y8 y9 y10 y11 y12 y13 y14 mn oo oa ob (upd ss k.toNatClampNeg 0) gg zz md (upd sd1 (mn k.toNatClampNeg).toNatClampNeg n1) da rg pp kp ot (if wiF k 0 (bl - 1) = 0 then 1 else 0) li bl nw wr ru al sp en ke kb at0) ++ fr) := hD
          refine lv_iload_n hx hb d_Z_make_84 rfl (lv_at hl 2 rfl) ?_
          refine lv_iconst (v := 1) hx hb d_Z_make_85 (by decide) ?_
          refine lv_iadd hx hb d_Z_make_86 ?_
          refine lv_sipush (v := 300) hx hb d_Z_make_87 (by decide) ?_
          refine lv_icmp_le (tgt := 95) hx hb d_Z_make_90 (by decide) (fun c_90 => ?_) (fun c_90 => ?_)
          · refine lv_aload_n hx hb d_Z_make_95 rfl (lv_at hl 0 rfl) ?_
            refine lv_iconst (v := 0) hx hb d_Z_make_96 (by decide) ?_
            refine va_put (ci := 5) (v := .int 0) (ty := .int) (C := R_Z) (T := T_Z) (N := 26) hx hb ht in_Z t_Z t_Z_ok n_Z hown hK.1 hP hD hS 0 rfl rfl 25 (by decide) (ht _ k_fl_Z_78) (fun _ h9 => h9) rfl (by decide +kernel) rfl rfl (Nat.le_of_ble_eq_true rfl) d_Z_make_97 (fun H locs hP hD hS => ?_)
            have hP : va_P D vwCl ((wZ cI cL z0 y1 y2 y3 y4 y5 y6 y7 y8 y9 y10 y11 y12 y13 y14 mn oo oa ob (upd ss k.toNatClampNeg 0) gg zz md (upd sd1 (mn k.toNatClampNeg).toNatClampNeg n1) da rg pp kp ot (if wiF k 0 (bl - 1) = 0 then 1 else 0) li bl nw wr ru al sp en ke kb 0) ++ fr) H := hP
            have hD : va_D A ((wZ cI cL z0 y1 y2 y3 y4 y5 y6 y7 y8 y9 y10 y11 y12 y13 y14 mn oo oa ob (upd ss k.toNatClampNeg 0) gg zz md (upd sd1 (mn k.toNatClampNeg).toNatClampNeg n1) da rg pp kp ot (if wiF k 0 (bl - 1) = 0 then 1 else 0) li bl nw wr ru al sp en ke kb 0) ++ fr) := hD
            refine lv_iconst (v := 0) hx hb d_Z_make_100 (by decide) ?_
            refine lv_istore_n (lv' := [(3, .int 0), (0, .ref z0), (1, .int k), (2, .int n1)]) hx hb d_Z_make_101 rfl hl (by decide) rfl (fun ls hl => ?_)
            have lp : ∀ (n : Nat) (i : Int32) (md1 : Fn) (at1 : Int32) (H : Heap) (locs : List Loc) (ls : Array Slot), (i.toInt + (n : Int) = 61) → (0 ≤ i.toInt ∧ i.toInt ≤ (mn k.toNatClampNeg).toInt) → (at1.toInt = (stN (vw 60 oo k) (vw 60 ob k) i.toNatClampNeg).toInt) → (wrL (vw 60 oo k) (vw 60 oa k) (vw 60 ob k) (stN (vw 60 oo k) (vw 60 ob k)) (mn k.toNatClampNeg) n i (vw 300 md1 k, at1) = wrL (vw 60 oo k) (vw 60 oa k) (vw 60 ob k) (stN (vw 60 oo k) (vw 60 ob k)) (mn k.toNatClampNeg) 61 0 (vw 300 md k, 0)) → (MF k md md1) → va_P D vwCl ((wZ cI cL z0 y1 y2 y3 y4 y5 y6 y7 y8 y9 y10 y11 y12 y13 y14 mn oo oa ob (upd ss k.toNatClampNeg 0) gg zz md1 (upd sd1 (mn k.toNatClampNeg).toNatClampNeg n1) da rg pp kp ot (if wiF k 0 (bl - 1) = 0 then 1 else 0) li bl nw wr ru al sp en ke kb at1) ++ fr) H → va_D A ((wZ cI cL z0 y1 y2 y3 y4 y5 y6 y7 y8 y9 y10 y11 y12 y13 y14 mn oo oa ob (upd ss k.toNatClampNeg 0) gg zz md1 (upd sd1 (mn k.toNatClampNeg).toNatClampNeg n1) da rg pp kp ot (if wiF k 0 (bl - 1) = 0 then 1 else 0) li bl nw wr ru al sp en ke kb at1) ++ fr) → va_S A s.heap H locs → lv_has ls 4 [(0, .ref z0), (1, .int k), (3, .int i)] → W p l e ({ frames := 3, cells := 0, slots := 0, locals := 69 } : Room) s m ([.ref z0, .int k] : List Value).toArray below meth c H locs 0 0 Q (F0 m 102 ls []) := by
              intro n
              induction n with
              | zero =>
                intro i md1 at1 H locs ls hn hi ha1 hW hmf hP hD hS hl
                exact absurd hn (by have := (hmn _ (kc (k_t (wi_k hbl c_5)))).2; omega)
              | succ n ih =>
                intro i md1 at1 H locs ls hn hi ha1 hW hmf hP hD hS hl
                refine lv_iload_n hx hb d_Z_make_102 rfl (lv_at hl 2 rfl) ?_
                refine lv_aload_n hx hb d_Z_make_103 rfl (lv_at hl 0 rfl) ?_
                refine va_get (ci := 5) (v := .ref y1) (C := R_Z) (T := T_Z) (N := 26) hx hb ht in_Z hown hK.1 hP 0 rfl rfl 7 (by decide) (ht _ k_fl_Z_7) (fun _ h9 => h9) rfl d_Z_make_104 ?_
                refine lv_iload_n hx hb d_Z_make_107 rfl (lv_at hl 1 rfl) ?_
                refine va_iald hx hb hK.1 hP 1 0 rfl rfl (in_k (k_t (wi_k hbl c_5))) d_Z_make_108 ?_
                refine lv_icmp_ge (tgt := 129) hx hb d_Z_make_109 (by decide) (fun c_109 => ?_) (fun c_109 => ?_)
                · refine lv_aload_n hx hb d_Z_make_129 rfl (lv_at hl 0 rfl) ?_
                  refine lv_iload_n hx hb d_Z_make_130 rfl (lv_at hl 1 rfl) ?_
                  refine lv_bipush (v := 10) hx hb d_Z_make_131 (by decide) ?_
                  refine goMv (va_runV (As := [.int k, .int 10]) (rest := []) ⟨hx, hb, hml, hown, hts⟩ (c_Z_put l D cI cL cO z0 y1 y2 y3 y4 y5 y6 y7 y8 y9 y10 y11 y12 y13 y14 mn oo oa ob (upd ss k.toNatClampNeg 0) gg zz md1 (upd sd1 (mn k.toNatClampNeg).toNatClampNeg n1) da rg pp kp ot (if wiF k 0 (bl - 1) = 0 then 1 else 0) li bl nw wr ru al sp en ke kb at1 fr k 10 (k_t (wi_k hbl c_5)) (by have hq := mk_9 hn1 c_90 (mk_n (hmn _ (kc (k_t (wi_k hbl c_5))))); have e9 : i = (mn k.toNatClampNeg) := i32_ext (by have := i_pos c_109; omega); rw [ha1, e9]; have := mk_n (o := (vw 60 oo k)) (e := (vw 60 ob k)) (hmn _ (kc (k_t (wi_k hbl c_5)))); omega) H.size) (cwV 2 hts (gBIG (m4 k_ml_Z_81 k_im_Z_put k_sel_Z_put k_ini_Z) k_co_Z_put) rfl rfl rfl (by decide +kernel) ⟨Nat.le_of_ble_eq_true rfl, Nat.le_of_ble_eq_true rfl⟩) ⟨PM.bl, va_recv hK.1 hP (ci := 5) (q0 := 0) rfl rfl, PM.pre hP hD hK⟩ rfl rfl hl.1 rfl (lv_room (Nat.le_of_ble_eq_true rfl)) d_Z_make_133 ⟨Nat.le_of_ble_eq_true rfl, Nat.le_of_ble_eq_true rfl⟩) hD hS hA (fun u H locs hw hP hD hS => ?_)
                  obtain ⟨md_133, at0_133⟩ := u
                  have e_133 : (vw 300 md_133 k, at0_133) = apF 10 (vw 300 md1 k, at1) ∧ at0_133.toInt = at1.toInt + 1 ∧ MF k md1 md_133 := hw
                  have hP : va_P D vwCl ((wZ cI cL z0 y1 y2 y3 y4 y5 y6 y7 y8 y9 y10 y11 y12 y13 y14 mn oo oa ob (upd ss k.toNatClampNeg 0) gg zz md_133 (upd sd1 (mn k.toNatClampNeg).toNatClampNeg n1) da rg pp kp ot (if wiF k 0 (bl - 1) = 0 then 1 else 0) li bl nw wr ru al sp en ke kb at0_133) ++ fr) H := hP
                  have hD : va_D A ((wZ cI cL z0 y1 y2 y3 y4 y5 y6 y7 y8 y9 y10 y11 y12 y13 y14 mn oo oa ob (upd ss k.toNatClampNeg 0) gg zz md_133 (upd sd1 (mn k.toNatClampNeg).toNatClampNeg n1) da rg pp kp ot (if wiF k 0 (bl - 1) = 0 then 1 else 0) li bl nw wr ru al sp en ke kb at0_133) ++ fr) := hD
                  refine lv_aload_n hx hb d_Z_make_136 rfl (lv_at hl 0 rfl) ?_
                  refine va_get (ci := 5) (v := .ref y7) (C := R_Z) (T := T_Z) (N := 26) hx hb ht in_Z hown hK.1 hP 0 rfl rfl 13 (by decide) (ht _ k_fl_Z_28) (fun _ h9 => h9) rfl d_Z_make_137 ?_
                  refine lv_iload_n hx hb d_Z_make_140 rfl (lv_at hl 1 rfl) ?_
                  refine lv_aload_n hx hb d_Z_make_141 rfl (lv_at hl 0 rfl) ?_
                  refine va_get (ci := 5) (v := .int at0_133) (C := R_Z) (T := T_Z) (N := 26) hx hb ht in_Z hown hK.1 hP 0 rfl rfl 25 (by decide) (ht _ k_fl_Z_78) (fun _ h9 => h9) rfl d_Z_make_142 ?_
                  refine va_iast hx hb hK.1 hP hD hS 7 0 rfl rfl (in_k (k_t (wi_k hbl c_5))) d_Z_make_145 (fun H locs hP hD hS => ?_)
                  have hP : va_P D vwCl ((wZ cI cL z0 y1 y2 y3 y4 y5 y6 y7 y8 y9 y10 y11 y12 y13 y14 mn oo oa ob (upd ss k.toNatClampNeg 0) gg (upd zz k.toNatClampNeg at0_133) md_133 (upd sd1 (mn k.toNatClampNeg).toNatClampNeg n1) da rg pp kp ot (if wiF k 0 (bl - 1) = 0 then 1 else 0) li bl nw wr ru al sp en ke kb at0_133) ++ fr) H := hP
                  have hD : va_D A ((wZ cI cL z0 y1 y2 y3 y4 y5 y6 y7 y8 y9 y10 y11 y12 y13 y14 mn oo oa ob (upd ss k.toNatClampNeg 0) gg (upd zz k.toNatClampNeg at0_133) md_133 (upd sd1 (mn k.toNatClampNeg).toNatClampNeg n1) da rg pp kp ot (if wiF k 0 (bl - 1) = 0 then 1 else 0) li bl nw wr ru al sp en ke kb at0_133) ++ fr) := hD
                  refine lv_aload_n hx hb d_Z_make_146 rfl (lv_at hl 0 rfl) ?_
                  refine va_get (ci := 5) (v := .ref y5) (C := R_Z) (T := T_Z) (N := 26) hx hb ht in_Z hown hK.1 hP 0 rfl rfl 11 (by decide) (ht _ k_fl_Z_22) (fun _ h9 => h9) rfl d_Z_make_147 ?_
                  refine lv_iload_n hx hb d_Z_make_150 rfl (lv_at hl 1 rfl) ?_
                  refine lv_iconst (v := 1) hx hb d_Z_make_151 (by decide) ?_
                  refine va_iast hx hb hK.1 hP hD hS 5 0 rfl rfl (in_k (k_t (wi_k hbl c_5))) d_Z_make_152 (fun H locs hP hD hS => ?_)
                  have hP : va_P D vwCl ((wZ cI cL z0 y1 y2 y3 y4 y5 y6 y7 y8 y9 y10 y11 y12 y13 y14 mn oo oa ob (upd (upd ss k.toNatClampNeg 0) k.toNatClampNeg 1) gg (upd zz k.toNatClampNeg at0_133) md_133 (upd sd1 (mn k.toNatClampNeg).toNatClampNeg n1) da rg pp kp ot (if wiF k 0 (bl - 1) = 0 then 1 else 0) li bl nw wr ru al sp en ke kb at0_133) ++ fr) H := hP
                  have hD : va_D A ((wZ cI cL z0 y1 y2 y3 y4 y5 y6 y7 y8 y9 y10 y11 y12 y13 y14 mn oo oa ob (upd (upd ss k.toNatClampNeg 0) k.toNatClampNeg 1) gg (upd zz k.toNatClampNeg at0_133) md_133 (upd sd1 (mn k.toNatClampNeg).toNatClampNeg n1) da rg pp kp ot (if wiF k 0 (bl - 1) = 0 then 1 else 0) li bl nw wr ru al sp en ke kb at0_133) ++ fr) := hD
                  refine lv_aload_n hx hb d_Z_make_153 rfl (lv_at hl 0 rfl) ?_
                  refine va_get (ci := 5) (v := .ref y6) (C := R_Z) (T := T_Z) (N := 26) hx hb ht in_Z hown hK.1 hP 0 rfl rfl 12 (by decide) (ht _ k_fl_Z_25) (fun _ h9 => h9) rfl d_Z_make_154 ?_
                  refine lv_iload_n hx hb d_Z_make_157 rfl (lv_at hl 1 rfl) ?_
                  refine lv_aload_n hx hb d_Z_make_158 rfl (lv_at hl 0 rfl) ?_
                  refine va_get (ci := 5) (v := .int nw) (C := R_Z) (T := T_Z) (N := 26) hx hb ht in_Z hown hK.1 hP 0 rfl rfl 3 (by decide) (ht _ k_fl_Z_96) (fun _ h9 => h9) rfl d_Z_make_159 ?_
                  refine va_iast hx hb hK.1 hP hD hS 6 0 rfl rfl (in_k (k_t (wi_k hbl c_5))) d_Z_make_162 (fun H locs hP hD hS => ?_)
                  have hP : va_P D vwCl ((wZ cI cL z0 y1 y2 y3 y4 y5 y6 y7 y8 y9 y10 y11 y12 y13 y14 mn oo oa ob (upd (upd ss k.toNatClampNeg 0) k.toNatClampNeg 1) (upd gg k.toNatClampNeg nw) (upd zz k.toNatClampNeg at0_133) md_133 (upd sd1 (mn k.toNatClampNeg).toNatClampNeg n1) da rg pp kp ot (if wiF k 0 (bl - 1) = 0 then 1 else 0) li bl nw wr ru al sp en ke kb at0_133) ++ fr) H := hP
                  have hD : va_D A ((wZ cI cL z0 y1 y2 y3 y4 y5 y6 y7 y8 y9 y10 y11 y12 y13 y14 mn oo oa ob (upd (upd ss k.toNatClampNeg 0) k.toNatClampNeg 1) (upd gg k.toNatClampNeg nw) (upd zz k.toNatClampNeg at0_133) md_133 (upd sd1 (mn k.toNatClampNeg).toNatClampNeg n1) da rg pp kp ot (if wiF k 0 (bl - 1) = 0 then 1 else 0) li bl nw wr ru al sp en ke kb at0_133) ++ fr) := hD
                  refine lv_aload_n hx hb d_Z_make_163 rfl (lv_at hl 0 rfl) ?_
                  refine va_get (ci := 5) (v := .int at0_133) (C := R_Z) (T := T_Z) (N := 26) hx hb ht in_Z hown hK.1 hP 0 rfl rfl 25 (by decide) (ht _ k_fl_Z_78) (fun _ h9 => h9) rfl d_Z_make_164 ?_
                  rw [hQ]; exact retMi (w1 := fun u : Int32 × Fn × Fn × Int32 × Fn × Fn × Fn => ((wZ cI cL z0 y1 y2 y3 y4 y5 y6 y7 y8 y9 y10 y11 y12 y13 y14 mn oo oa ob u.2.2.1 u.2.2.2.2.2.2 u.2.2.2.2.2.1 u.2.2.2.2.1 u.2.1 da rg pp kp ot u.1 li bl nw wr ru al sp en ke kb u.2.2.2.1) ++ fr)) (if wiF k 0 (bl - 1) = 0 then 1 else 0, upd sd1 (mn k.toNatClampNeg).toNatClampNeg n1, upd (upd ss k.toNatClampNeg 0) k.toNatClampNeg 1, at0_133, md_133, upd zz k.toNatClampNeg at0_133, upd gg k.toNatClampNeg nw) hx hb hr hlocks hP hD hS (Or.inr ⟨c_5, if_neg c_5, Or.inr ⟨by rw [← hn1]; exact c_90, by rw [e_133.1]; unfold wrA; rw [← hW]; simp only [wrL, if_pos c_109], hmf.tr e_133.2.2, rfl, rfl, rfl⟩⟩) d_Z_make_167
                · refine lv_aload_n hx hb d_Z_make_112 rfl (lv_at hl 0 rfl) ?_
                  refine lv_iload_n hx hb d_Z_make_113 rfl (lv_at hl 1 rfl) ?_
                  refine lv_bipush (v := 60) hx hb d_Z_make_114 (by decide) ?_
                  refine lv_iload_n hx hb d_Z_make_116 rfl (lv_at hl 1 rfl) ?_
                  refine lv_imul hx hb d_Z_make_117 ?_
                  refine lv_iload_n hx hb d_Z_make_118 rfl (lv_at hl 2 rfl) ?_
                  refine lv_iadd hx hb d_Z_make_119 ?_
                  refine goMv (va_runV (As := [.int k, .int ((60 * k) + i)]) (rest := []) ⟨hx, hb, hml, hown, hts⟩ (c_Z_putInstruction l D cI cL cO z0 y1 y2 y3 y4 y5 y6 y7 y8 y9 y10 y11 y12 y13 y14 mn oo oa ob (upd ss k.toNatClampNeg 0) gg zz md1 (upd sd1 (mn k.toNatClampNeg).toNatClampNeg n1) da rg pp kp ot (if wiF k 0 (bl - 1) = 0 then 1 else 0) li bl nw wr ru al sp en ke kb at1 fr k ((60 * k) + i) (stN (vw 60 oo k) (vw 60 ob k)) hmn (k_t (wi_k hbl c_5)) (in60 (k_t (wi_k hbl c_5)) ⟨hi.1, by have := i_lt c_109; have := (hmn _ (kc (k_t (wi_k hbl c_5)))).2; omega⟩) (by rw [vw60 (f := oo) (k_t (wi_k hbl c_5)) ⟨hi.1, by have := i_lt c_109; have := (hmn _ (kc (k_t (wi_k hbl c_5)))).2; omega⟩, vw60 (f := oa) (k_t (wi_k hbl c_5)) ⟨hi.1, by have := i_lt c_109; have := (hmn _ (kc (k_t (wi_k hbl c_5)))).2; omega⟩, vw60 (f := ob) (k_t (wi_k hbl c_5)) ⟨hi.1, by have := i_lt c_109; have := (hmn _ (kc (k_t (wi_k hbl c_5)))).2; omega⟩]; exact (hokA k (k_t (wi_k hbl c_5))).at hi.1 c_109) hsd (by rw [ha1, vw60 (f := oo) (k_t (wi_k hbl c_5)) ⟨hi.1, by have := i_lt c_109; have := (hmn _ (kc (k_t (wi_k hbl c_5)))).2; omega⟩, vw60 (f := ob) (k_t (wi_k hbl c_5)) ⟨hi.1, by have := i_lt c_109; have := (hmn _ (kc (k_t (wi_k hbl c_5)))).2; omega⟩]; have hl1 := stN_lt (o := (vw 60 oo k)) (e := (vw 60 ob k)) (i := i.toNatClampNeg) (m := (mn k.toNatClampNeg).toNatClampNeg) (by have := clN hi.1; have := clN (hmn _ (kc (k_t (wi_k hbl c_5)))).1; have := i_lt c_109; omega) (by have := clN (hmn _ (kc (k_t (wi_k hbl c_5)))).1; have := (hmn _ (kc (k_t (wi_k hbl c_5)))).2; omega); have := stN_r (vw 60 oo k) (vw 60 ob k) i.toNatClampNeg (by have := clN hi.1; have := (hmn _ (kc (k_t (wi_k hbl c_5)))).2; omega); have hq := mk_9 hn1 c_90 (mk_n (hmn _ (kc (k_t (wi_k hbl c_5))))); omega) H.size) (cwV 2 hts (gBIG (m4 k_ml_Z_93 k_im_Z_putInstruction k_sel_Z_putInstruction k_ini_Z) k_co_Z_putInstruction) rfl rfl rfl (by decide +kernel) ⟨Nat.le_of_ble_eq_true rfl, Nat.le_of_ble_eq_true rfl⟩) ⟨PM.bl, va_recv hK.1 hP (ci := 5) (q0 := 0) rfl rfl, PM.pre hP hD hK⟩ rfl rfl hl.1 rfl (lv_room (Nat.le_of_ble_eq_true rfl)) d_Z_make_120 ⟨Nat.le_of_ble_eq_true rfl, Nat.le_of_ble_eq_true rfl⟩) hD hS hA (fun u H locs hw hP hD hS => ?_)
                  obtain ⟨md_120, at0_120⟩ := u
                  have e_120 : (vw 300 md_120 k, at0_120) = wrI (stN (vw 60 oo k) (vw 60 ob k)) (mn k.toNatClampNeg) (oo ((60 * k) + i).toNatClampNeg) (oa ((60 * k) + i).toNatClampNeg) (ob ((60 * k) + i).toNatClampNeg) (vw 300 md1 k, at1) ∧ at0_120.toInt = at1.toInt + (bytesF (oo ((60 * k) + i).toNatClampNeg) (ob ((60 * k) + i).toNatClampNeg)).toInt ∧ MF k md1 md_120 := hw
                  have hP : va_P D vwCl ((wZ cI cL z0 y1 y2 y3 y4 y5 y6 y7 y8 y9 y10 y11 y12 y13 y14 mn oo oa ob (upd ss k.toNatClampNeg 0) gg zz md_120 (upd sd1 (mn k.toNatClampNeg).toNatClampNeg n1) da rg pp kp ot (if wiF k 0 (bl - 1) = 0 then 1 else 0) li bl nw wr ru al sp en ke kb at0_120) ++ fr) H := hP
                  have hD : va_D A ((wZ cI cL z0 y1 y2 y3 y4 y5 y6 y7 y8 y9 y10 y11 y12 y13 y14 mn oo oa ob (upd ss k.toNatClampNeg 0) gg zz md_120 (upd sd1 (mn k.toNatClampNeg).toNatClampNeg n1) da rg pp kp ot (if wiF k 0 (bl - 1) = 0 then 1 else 0) li bl nw wr ru al sp en ke kb at0_120) ++ fr) := hD
                  refine lv_iinc (v := i + 1) (lv' := [(3, .int (i + 1)), (0, .ref z0), (1, .int k)]) hx hb d_Z_make_123 hl (k := 2) rfl rfl (by decide) rfl (fun ls hl => ?_)
                  refine lv_goto (tgt := 102) hx hb d_Z_make_126 (by decide) ?_
                  exact ih (i + 1) md_120 at0_120 _ _ ls (by rw [i32_1 (by omega)]; omega) (by rw [i32_1 (by omega)]; have := i_lt c_109; omega) (by rw [cl1 hi.1 (by omega), stN_s _ _ _ (by have := clN hi.1; have := (hmn _ (kc (k_t (wi_k hbl c_5)))).2; omega), e_120.2.1, ha1, vw60 (f := oo) (k_t (wi_k hbl c_5)) ⟨hi.1, by have := i_lt c_109; have := (hmn _ (kc (k_t (wi_k hbl c_5)))).2; omega⟩, vw60 (f := ob) (k_t (wi_k hbl c_5)) ⟨hi.1, by have := i_lt c_109; have := (hmn _ (kc (k_t (wi_k hbl c_5)))).2; omega⟩]) (by rw [e_120.1, ← hW, vw60 (f := oo) (k_t (wi_k hbl c_5)) ⟨hi.1, by have := i_lt c_109; have := (hmn _ (kc (k_t (wi_k hbl c_5)))).2; omega⟩, vw60 (f := oa) (k_t (wi_k hbl c_5)) ⟨hi.1, by have := i_lt c_109; have := (hmn _ (kc (k_t (wi_k hbl c_5)))).2; omega⟩, vw60 (f := ob) (k_t (wi_k hbl c_5)) ⟨hi.1, by have := i_lt c_109; have := (hmn _ (kc (k_t (wi_k hbl c_5)))).2; omega⟩]; simp only [wrL, if_neg c_109, if_neg (show ¬ (60 : Int32) ≤ i by rw [Int32.le_iff_toInt_le, show (60 : Int32).toInt = 60 by decide]; have := i_lt c_109; have := (hmn _ (kc (k_t (wi_k hbl c_5)))).2; omega)]) (hmf.tr e_120.2.2) hP hD hS (lv_sub hl [1, 2, 0] rfl)
            exact lp 61 0 md 0 _ _ ls (by decide) (⟨by decide, (hmn _ (kc (k_t (wi_k hbl c_5)))).1⟩) rfl rfl MF.rf hP hD hS (lv_sub hl [1, 2, 0] rfl)
          · refine lv_iconst (v := (-1)) hx hb d_Z_make_93 (by decide) ?_
            rw [hQ]; exact retMi (w1 := fun u : Int32 × Fn × Fn × Int32 × Fn × Fn × Fn => ((wZ cI cL z0 y1 y2 y3 y4 y5 y6 y7 y8 y9 y10 y11 y12 y13 y14 mn oo oa ob u.2.2.1 u.2.2.2.2.2.2 u.2.2.2.2.2.1 u.2.2.2.2.1 u.2.1 da rg pp kp ot u.1 li bl nw wr ru al sp en ke kb u.2.2.2.1) ++ fr)) (if wiF k 0 (bl - 1) = 0 then 1 else 0, upd sd1 (mn k.toNatClampNeg).toNatClampNeg n1, upd ss k.toNatClampNeg 0, at0, md, zz, gg) hx hb hr hlocks hP hD hS (Or.inr ⟨c_5, if_neg c_5, Or.inl ⟨by rw [← hn1]; exact c_90, rfl, rfl, rfl, rfl, rfl⟩⟩) d_Z_make_94
        · refine lv_aload_n hx hb d_Z_make_24 rfl (lv_at hl 0 rfl) ?_
          refine va_get (ci := 5) (v := .ref y9) (C := R_Z) (T := T_Z) (N := 26) hx hb ht in_Z hown hK.1 hP 0 rfl rfl 15 (by decide) (ht _ k_fl_Z_34) (fun _ h9 => h9) rfl d_Z_make_25 ?_
          refine lv_iload_n hx hb d_Z_make_28 rfl (lv_at hl 3 rfl) ?_
          refine lv_iload_n hx hb d_Z_make_29 rfl (lv_at hl 2 rfl) ?_
          refine va_iast hx hb hK.1 hP hD hS 9 0 rfl rfl (in61 hi.1 (by have := i_lt c_21; have := (hmn _ (kc (k_t (wi_k hbl c_5)))).2; omega)) d_Z_make_30 (fun H locs hP hD hS => ?_)
          have hP : va_P D vwCl ((wZ cI cL z0 y1 y2 y3 y4 y5 y6 y7 y8 y9 y10 y11 y12 y13 y14 mn oo oa ob ss gg zz md (upd sd1 i.toNatClampNeg n1) da rg pp kp ot (if wiF k 0 (bl - 1) = 0 then 1 else 0) li bl nw wr ru al sp en ke kb at0) ++ fr) H := hP
          have hD : va_D A ((wZ cI cL z0 y1 y2 y3 y4 y5 y6 y7 y8 y9 y10 y11 y12 y13 y14 mn oo oa ob ss gg zz md (upd sd1 i.toNatClampNeg n1) da rg pp kp ot (if wiF k 0 (bl - 1) = 0 then 1 else 0) li bl nw wr ru al sp en ke kb at0) ++ fr) := hD
          refine lv_iload_n hx hb d_Z_make_31 rfl (lv_at hl 2 rfl) ?_
          refine lv_aload_n hx hb d_Z_make_32 rfl (lv_at hl 0 rfl) ?_
          refine va_get (ci := 5) (v := .ref y2) (C := R_Z) (T := T_Z) (N := 26) hx hb ht in_Z hown hK.1 hP 0 rfl rfl 8 (by decide) (ht _ k_fl_Z_13) (fun _ h9 => h9) rfl d_Z_make_33 ?_
          refine lv_bipush (v := 60) hx hb d_Z_make_36 (by decide) ?_
          refine lv_iload_n hx hb d_Z_make_38 rfl (lv_at hl 1 rfl) ?_
          refine lv_imul hx hb d_Z_make_39 ?_
          refine lv_iload_n hx hb d_Z_make_40 rfl (lv_at hl 3 rfl) ?_
          refine lv_iadd hx hb d_Z_make_41 ?_
          refine va_iald hx hb hK.1 hP 2 0 rfl rfl (in60 (k_t (wi_k hbl c_5)) ⟨hi.1, by have := i_lt c_21; have := (hmn _ (kc (k_t (wi_k hbl c_5)))).2; omega⟩) d_Z_make_42 ?_
          rw [show oo ((60 * k) + i).toNatClampNeg = vw 60 oo k i.toNatClampNeg from (vw60 (k_t (wi_k hbl c_5)) ⟨hi.1, by have := i_lt c_21; have := (hmn _ (kc (k_t (wi_k hbl c_5)))).2; omega⟩)]
          refine lv_aload_n hx hb d_Z_make_43 rfl (lv_at hl 0 rfl) ?_
          refine va_get (ci := 5) (v := .ref y4) (C := R_Z) (T := T_Z) (N := 26) hx hb ht in_Z hown hK.1 hP 0 rfl rfl 10 (by decide) (ht _ k_fl_Z_19) (fun _ h9 => h9) rfl d_Z_make_44 ?_
          refine lv_bipush (v := 60) hx hb d_Z_make_47 (by decide) ?_
          refine lv_iload_n hx hb d_Z_make_49 rfl (lv_at hl 1 rfl) ?_
          refine lv_imul hx hb d_Z_make_50 ?_
          refine lv_iload_n hx hb d_Z_make_51 rfl (lv_at hl 3 rfl) ?_
          refine lv_iadd hx hb d_Z_make_52 ?_
          refine va_iald hx hb hK.1 hP 4 0 rfl rfl (in60 (k_t (wi_k hbl c_5)) ⟨hi.1, by have := i_lt c_21; have := (hmn _ (kc (k_t (wi_k hbl c_5)))).2; omega⟩) d_Z_make_53 ?_
          rw [show ob ((60 * k) + i).toNatClampNeg = vw 60 ob k i.toNatClampNeg from (vw60 (k_t (wi_k hbl c_5)) ⟨hi.1, by have := i_lt c_21; have := (hmn _ (kc (k_t (wi_k hbl c_5)))).2; omega⟩)]
          refine goRi (va_runS (As := [.int (vw 60 oo k i.toNatClampNeg), .int (vw 60 ob k i.toNatClampNeg)]) (rest := [.int n1]) ⟨hx, hb, hml, hown, hts⟩ (c_Z_bytesOf l D cI cL cO (vw 60 oo k i.toNatClampNeg) (vw 60 ob k i.toNatClampNeg)) (cwS 2 hts (gBIG (m3 k_ml_Z_89 k_st_Z_bytesOf k_ini_Z) k_co_Z_bytesOf) rfl rfl rfl (by decide +kernel) ⟨Nat.le_of_ble_eq_true rfl, Nat.le_of_ble_eq_true rfl⟩) ⟨PR.bl, PR.pre P_nil hK⟩ rfl rfl hl.1 rfl (lv_room (Nat.le_of_ble_eq_true rfl)) d_Z_make_54 ⟨Nat.le_of_ble_eq_true rfl, Nat.le_of_ble_eq_true rfl⟩) ?_
          refine lv_iadd hx hb d_Z_make_57 ?_
          refine lv_istore_n (lv' := [(2, .int (n1 + (zbyF (vw 60 oo k i.toNatClampNeg) (vw 60 ob k i.toNatClampNeg)))), (0, .ref z0), (1, .int k), (3, .int i)]) hx hb d_Z_make_58 rfl hl (by decide) rfl (fun ls hl => ?_)
          refine lv_iinc (v := i + 1) (lv' := [(3, .int (i + 1)), (2, .int (n1 + (zbyF (vw 60 oo k i.toNatClampNeg) (vw 60 ob k i.toNatClampNeg)))), (0, .ref z0), (1, .int k)]) hx hb d_Z_make_59 hl (k := 3) rfl rfl (by decide) rfl (fun ls hl => ?_)
          refine lv_goto (tgt := 14) hx hb d_Z_make_62 (by decide) ?_
          exact ih (n1 + (zbyF (vw 60 oo k i.toNatClampNeg) (vw 60 ob k i.toNatClampNeg))) (i + 1) (upd sd1 i.toNatClampNeg n1) _ _ ls (by rw [i32_1 (by omega)]; omega) (by rw [i32_1 (by omega)]; have := i_lt c_21; omega) (mk_s hi.1 (by omega) hs1 hnn) (by rw [cl1 hi.1 (by omega), hnn, zby_eq ((hokA k (k_t (wi_k hbl c_5))).at hi.1 c_21)]; rfl) hP hD hS (lv_sub hl [2, 3, 1, 0] rfl)
    exact lp 61 0 0 sd _ _ ls (by decide) (⟨by decide, (hmn _ (kc (k_t (wi_k hbl c_5)))).1⟩) (fun j hj => absurd hj (by simp)) rfl hP hD hS (lv_sub hl [2, 3, 1, 0] rfl)
  · refine lv_iconst (v := 0) hx hb d_Z_make_8 (by decide) ?_
    rw [hQ]; exact retMi (w1 := fun u : Int32 × Fn × Fn × Int32 × Fn × Fn × Fn => ((wZ cI cL z0 y1 y2 y3 y4 y5 y6 y7 y8 y9 y10 y11 y12 y13 y14 mn oo oa ob u.2.2.1 u.2.2.2.2.2.2 u.2.2.2.2.2.1 u.2.2.2.2.1 u.2.1 da rg pp kp ot u.1 li bl nw wr ru al sp en ke kb u.2.2.2.1) ++ fr)) (if wiF k 0 (bl - 1) = 0 then 1 else 0, sd, ss, at0, md, zz, gg) hx hb hr hlocks hP hD hS (Or.inl ⟨c_5, rfl, if_pos c_5, rfl, rfl, rfl, rfl⟩) d_Z_make_9
