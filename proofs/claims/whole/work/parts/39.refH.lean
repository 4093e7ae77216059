/-- all bytes are bytes -/
def okY7 (md : Fn) : Prop := ∀ j : Nat, j < 7200 → 0 ≤ (md j).toInt ∧ (md j).toInt ≤ 255
theorem okY7.v {P : Prop} {md : Fn} {k : Int32} (h : okY7 md) (hk : 0 ≤ k.toInt ∧ k.toInt < 24 ∧ P) : okY (vw 300 md k) := fun j hj => h _ (by have := kc hk; omega)
theorem k_t {P : Prop} {k : Int32} (hk : 0 ≤ k.toInt ∧ k.toInt < 24 ∧ P) : 0 ≤ k.toInt ∧ k.toInt < 24 ∧ True := ⟨hk.1, hk.2.1, trivial⟩
def zchF (k bl : Int32) (ss zz md : Fn) : Int32 × Int32 := if wiF k 0 (bl - 1) = 0 then (0, 1) else if ss k.toNatClampNeg = 0 then (0, 2) else (vdF (vw 300 md k) (zz k.toNatClampNeg), 0)
/-- a border: (handed, wrong so far, states) -/
def boL (zz md : Fn) (bl : Int32) : Nat → Int32 → Int32 → Int32 → Fn → Int32 × Int32 × Fn
  | 0, _, q, w, s => (q, w, s)
  | n + 1, k, q, w, s => if bl ≤ k then (q, w, s) else if s k.toNatClampNeg = 1 then
      (if vdF (vw 300 md k) (zz k.toNatClampNeg) = 0 then boL zz md bl n (k + 1) (q + 1) (w + 0) (upd s k.toNatClampNeg 2) else boL zz md bl n (k + 1) (q + 0) (w + 1) (upd s k.toNatClampNeg 0))
    else boL zz md bl n (k + 1) q w s

abbrev w_Z_check : List Cond := .code y_Z_check b_Z_check 2 (some .int) :: BIG
set_option maxHeartbeats 4000000 in
set_option maxRecDepth 100000 in
theorem c_Z_check (l : Launch) (D : va_G) (cI cL cO : ClassId) (z0 : Nat) (y1 : Nat) (y2 : Nat) (y3 : Nat) (y4 : Nat) (y5 : Nat) (y6 : Nat) (y7 : Nat) (y8 : Nat) (y9 : Nat) (y10 : Nat) (y11 : Nat) (y12 : Nat) (y13 : Nat) (y14 : Nat) (mn : Fn) (oo : Fn) (oa : Fn) (ob : Fn) (ss : Fn) (gg : Fn) (zz : Fn) (md : Fn) (sd : Fn) (da : Fn) (rg : FL) (pp : FL) (kp : FL) (ot : FL) (th : Int32) (li : Int32) (bl : Int32) (nw : Int32) (wr : Int32) (ru : Int32) (al : Int32) (sp : Int32) (en : Int32) (ke : Int32) (kb : Int32) (at0 : Int32) (fr : va_W) (k : Int32) (hbl : 0 ≤ bl.toInt ∧ bl.toInt ≤ 24) (hzz : ∀ j, j < 24 → 0 ≤ (zz j).toInt ∧ (zz j).toInt ≤ 300) (hY7 : okY7 md) : CMi l y_Z_check w_Z_check ({ frames := 4, cells := 0, slots := 0, locals := 94 }) D cI cL cO [.ref z0, .int k] ((wZ cI cL z0 y1 y2 y3 y4 y5 y6 y7 y8 y9 y10 y11 y12 y13 y14 mn oo oa ob ss gg zz md sd da rg pp kp ot th li bl nw wr ru al sp en ke kb at0) ++ fr) (fun (r : Int32) (u : Int32 × Fn) => (r, u.1) = zchF k bl ss zz md) (fun u : Int32 × Fn => ((wZ cI cL z0 y1 y2 y3 y4 y5 y6 y7 y8 y9 y10 y11 y12 y13 y14 mn oo oa ob ss gg zz md sd u.2 rg pp kp ot u.1 li bl nw wr ru al sp en ke kb at0) ++ fr)) 0 0 := by
  refine ofMi (cc := b_Z_check) (maxL := 2) (ret := (some .int)) (by decide) rfl (Nat.le_of_ble_eq_true rfl) ?_
  intro p e s m below meth c A ls H Q hQ hx hb hr hlocks hin hts hown hml hP hK hD hS hA hl
  have hl : lv_has ls 2 [(0, .ref z0), (1, .int k)] := hl
  have hown : s.vm.findClass R_Z = some m.cls := hown
  have ht : ∀ w ∈ BIG, w.before _ s = true := fun w h => hts w (List.mem_cons_of_mem _ h)
  refine lv_aload_n hx hb d_Z_check_0 rfl (lv_at hl 0 rfl) ?_
  refine lv_iload_n hx hb d_Z_check_1 rfl (lv_at hl 1 rfl) ?_
  refine goMi (va_runV (As := [.int k]) (rest := []) ⟨hx, hb, hml, hown, hts⟩ (c_Z_isBlock l D cI cL cO z0 y1 y2 y3 y4 y5 y6 y7 y8 y9 y10 y11 y12 y13 y14 mn oo oa ob ss gg zz md sd da rg pp kp ot th li bl nw wr ru al sp en ke kb at0 fr k H.size) (cwV 1 hts (gBIG (m4 k_ml_Z_71 k_im_Z_isBlock k_sel_Z_isBlock k_ini_Z) k_co_Z_isBlock) rfl rfl rfl (by decide +kernel) ⟨Nat.le_of_ble_eq_true rfl, Nat.le_of_ble_eq_true rfl⟩) ⟨PM.bl, va_recv hK.1 hP (ci := 5) (q0 := 0) rfl rfl, PM.pre hP hD hK⟩ rfl rfl hl.1 rfl (lv_room (Nat.le_of_ble_eq_true rfl)) d_Z_check_2 ⟨Nat.le_of_ble_eq_true rfl, Nat.le_of_ble_eq_true rfl⟩) hD hS hA (fun r_2 u H locs hw hP hD hS => ?_)
  obtain ⟨rfl, rfl⟩ := hw
  have hP : va_P D vwCl ((wZ cI cL z0 y1 y2 y3 y4 y5 y6 y7 y8 y9 y10 y11 y12 y13 y14 mn oo oa ob ss gg zz md sd da rg pp kp ot (if wiF k 0 (bl - 1) = 0 then 1 else 0) li bl nw wr ru al sp en ke kb at0) ++ fr) H := hP
  have hD : va_D A ((wZ cI cL z0 y1 y2 y3 y4 y5 y6 y7 y8 y9 y10 y11 y12 y13 y14 mn oo oa ob ss gg zz md sd da rg pp kp ot (if wiF k 0 (bl - 1) = 0 then 1 else 0) li bl nw wr ru al sp en ke kb at0) ++ fr) := hD
  refine lv_if_ne (tgt := 10) hx hb d_Z_check_5 (by decide) (fun c_5 => ?_) (fun c_5 => ?_)
  · refine lv_aload_n hx hb d_Z_check_10 rfl (lv_at hl 0 rfl) ?_
    refine va_get (ci := 5) (v := .ref y5) (C := R_Z) (T := T_Z) (N := 26) hx hb ht in_Z hown hK.1 hP 0 rfl rfl 11 (by decide) (ht _ k_fl_Z_22) (fun _ h9 => h9) rfl d_Z_check_11 ?_
    refine lv_iload_n hx hb d_Z_check_14 rfl (lv_at hl 1 rfl) ?_
    refine va_iald hx hb hK.1 hP 5 0 rfl rfl (in_k (wi_k hbl c_5)) d_Z_check_15 ?_
    refine lv_if_ne (tgt := 27) hx hb d_Z_check_16 (by decide) (fun c_16 => ?_) (fun c_16 => ?_)
    · refine lv_aload_n hx hb d_Z_check_27 rfl (lv_at hl 0 rfl) ?_
      refine lv_iload_n hx hb d_Z_check_28 rfl (lv_at hl 1 rfl) ?_
      refine goMi (va_runV (As := [.int k]) (rest := []) ⟨hx, hb, hml, hown, hts⟩ (c_Z_checkOf l D cI cL cO z0 y1 y2 y3 y4 y5 y6 y7 y8 y9 y10 y11 y12 y13 y14 mn oo oa ob ss gg zz md sd da rg pp kp ot (if wiF k 0 (bl - 1) = 0 then 1 else 0) li bl nw wr ru al sp en ke kb at0 fr k hzz (k_t (wi_k hbl c_5)) (hY7.v (wi_k hbl c_5)) H.size) (cwV 1 hts (gBIG (m4 k_ml_Z_114 k_im_Z_checkOf k_sel_Z_checkOf k_ini_Z) k_co_Z_checkOf) rfl rfl rfl (by decide +kernel) ⟨Nat.le_of_ble_eq_true rfl, Nat.le_of_ble_eq_true rfl⟩) ⟨PM.bl, va_recv hK.1 hP (ci := 5) (q0 := 0) rfl rfl, PM.pre hP hD hK⟩ rfl rfl hl.1 rfl (lv_room (Nat.le_of_ble_eq_true rfl)) d_Z_check_29 ⟨Nat.le_of_ble_eq_true rfl, Nat.le_of_ble_eq_true rfl⟩) hD hS hA (fun r_29 u H locs hw hP hD hS => ?_)
      obtain ⟨da_29, rfl⟩ : ∃ z, z = u := ⟨_, rfl⟩
      have e_29 : r_29 = vdF (vw 300 md k) (zz k.toNatClampNeg) := hw
      have hP : va_P D vwCl ((wZ cI cL z0 y1 y2 y3 y4 y5 y6 y7 y8 y9 y10 y11 y12 y13 y14 mn oo oa ob ss gg zz md sd da_29 rg pp kp ot (if wiF k 0 (bl - 1) = 0 then 1 else 0) li bl nw wr ru al sp en ke kb at0) ++ fr) H := hP
      have hD : va_D A ((wZ cI cL z0 y1 y2 y3 y4 y5 y6 y7 y8 y9 y10 y11 y12 y13 y14 mn oo oa ob ss gg zz md sd da_29 rg pp kp ot (if wiF k 0 (bl - 1) = 0 then 1 else 0) li bl nw wr ru al sp en ke kb at0) ++ fr) := hD
      rw [hQ]; exact retMi (w1 := fun u : Int32 × Fn => ((wZ cI cL z0 y1 y2 y3 y4 y5 y6 y7 y8 y9 y10 y11 y12 y13 y14 mn oo oa ob ss gg zz md sd u.2 rg pp kp ot u.1 li bl nw wr ru al sp en ke kb at0) ++ fr)) (if wiF k 0 (bl - 1) = 0 then 1 else 0, da_29) hx hb hr hlocks hP hD hS (by rw [e_29]; simp only [zchF, if_neg c_5, if_neg c_16]) d_Z_check_32
    · refine lv_aload_n hx hb d_Z_check_19 rfl (lv_at hl 0 rfl) ?_
      refine lv_iconst (v := 2) hx hb d_Z_check_20 (by decide) ?_
      refine goMi (va_runV (As := [.int 2]) (rest := []) ⟨hx, hb, hml, hown, hts⟩ (c_Z_fail l D cI cL cO z0 y1 y2 y3 y4 y5 y6 y7 y8 y9 y10 y11 y12 y13 y14 mn oo oa ob ss gg zz md sd da rg pp kp ot (if wiF k 0 (bl - 1) = 0 then 1 else 0) li bl nw wr ru al sp en ke kb at0 fr 2 H.size) (cwV 1 hts (gBIG (m4 k_ml_Z_67 k_im_Z_fail k_sel_Z_fail k_ini_Z) k_co_Z_fail) rfl rfl rfl (by decide +kernel) ⟨Nat.le_of_ble_eq_true rfl, Nat.le_of_ble_eq_true rfl⟩) ⟨PM.bl, va_recv hK.1 hP (ci := 5) (q0 := 0) rfl rfl, PM.pre hP hD hK⟩ rfl rfl hl.1 rfl (lv_room (Nat.le_of_ble_eq_true rfl)) d_Z_check_21 ⟨Nat.le_of_ble_eq_true rfl, Nat.le_of_ble_eq_true rfl⟩) hD hS hA (fun r_21 u H locs hw hP hD hS => ?_)
      obtain ⟨rfl, rfl⟩ := hw
      have hP : va_P D vwCl ((wZ cI cL z0 y1 y2 y3 y4 y5 y6 y7 y8 y9 y10 y11 y12 y13 y14 mn oo oa ob ss gg zz md sd da rg pp kp ot 2 li bl nw wr ru al sp en ke kb at0) ++ fr) H := hP
      have hD : va_D A ((wZ cI cL z0 y1 y2 y3 y4 y5 y6 y7 y8 y9 y10 y11 y12 y13 y14 mn oo oa ob ss gg zz md sd da rg pp kp ot 2 li bl nw wr ru al sp en ke kb at0) ++ fr) := hD
      refine lv_goto (tgt := 32) hx hb d_Z_check_24 (by decide) ?_
      rw [hQ]; exact retMi (w1 := fun u : Int32 × Fn => ((wZ cI cL z0 y1 y2 y3 y4 y5 y6 y7 y8 y9 y10 y11 y12 y13 y14 mn oo oa ob ss gg zz md sd u.2 rg pp kp ot u.1 li bl nw wr ru al sp en ke kb at0) ++ fr)) (2, da) hx hb hr hlocks hP hD hS (by simp only [zchF, if_neg c_5, if_pos c_16]) d_Z_check_32
  · refine lv_iconst (v := 0) hx hb d_Z_check_8 (by decide) ?_
    rw [hQ]; exact retMi (w1 := fun u : Int32 × Fn => ((wZ cI cL z0 y1 y2 y3 y4 y5 y6 y7 y8 y9 y10 y11 y12 y13 y14 mn oo oa ob ss gg zz md sd u.2 rg pp kp ot u.1 li bl nw wr ru al sp en ke kb at0) ++ fr)) (if wiF k 0 (bl - 1) = 0 then 1 else 0, da) hx hb hr hlocks hP hD hS (by simp only [zchF, if_pos c_5]) d_Z_check_9

abbrev w_Z_border : List Cond := .code y_Z_border b_Z_border 4 (some .int) :: BIG
set_option maxHeartbeats 4000000 in
set_option maxRecDepth 100000 in
theorem c_Z_border (l : Launch) (D : va_G) (cI cL cO : ClassId) (z0 : Nat) (y1 : Nat) (y2 : Nat) (y3 : Nat) (y4 : Nat) (y5 : Nat) (y6 : Nat) (y7 : Nat) (y8 : Nat) (y9 : Nat) (y10 : Nat) (y11 : Nat) (y12 : Nat) (y13 : Nat) (y14 : Nat) (mn : Fn) (oo : Fn) (oa : Fn) (ob : Fn) (ss : Fn) (gg : Fn) (zz : Fn) (md : Fn) (sd : Fn) (da : Fn) (rg : FL) (pp : FL) (kp : FL) (ot : FL) (th : Int32) (li : Int32) (bl : Int32) (nw : Int32) (wr : Int32) (ru : Int32) (al : Int32) (sp : Int32) (en : Int32) (ke : Int32) (kb : Int32) (at0 : Int32) (fr : va_W) (hbl : 0 ≤ bl.toInt ∧ bl.toInt ≤ 24) (hzz : ∀ j, j < 24 → 0 ≤ (zz j).toInt ∧ (zz j).toInt ≤ 300) (hY7 : okY7 md) : CMi l y_Z_border w_Z_border ({ frames := 4, cells := 0, slots := 0, locals := 94 }) D cI cL cO [.ref z0] ((wZ cI cL z0 y1 y2 y3 y4 y5 y6 y7 y8 y9 y10 y11 y12 y13 y14 mn oo oa ob ss gg zz md sd da rg pp kp ot th li bl nw wr ru al sp en ke kb at0) ++ fr) (fun (r : Int32) (u : Int32 × Int32 × Fn × Fn) => (r, u.2.1, u.2.2.1) = boL zz md bl 25 0 0 wr ss ∧ u.1 = 0) (fun u : Int32 × Int32 × Fn × Fn => ((wZ cI cL z0 y1 y2 y3 y4 y5 y6 y7 y8 y9 y10 y11 y12 y13 y14 mn oo oa ob u.2.2.1 gg zz md sd u.2.2.2 rg pp kp ot u.1 li bl nw u.2.1 ru al sp en ke kb at0) ++ fr)) 0 0 := by
  refine ofMi (cc := b_Z_border) (maxL := 4) (ret := (some .int)) (by decide) rfl (Nat.le_of_ble_eq_true rfl) ?_
  intro p e s m below meth c A ls H Q hQ hx hb hr hlocks hin hts hown hml hP hK hD hS hA hl
  have hl : lv_has ls 4 [(0, .ref z0)] := hl
  have hown : s.vm.findClass R_Z = some m.cls := hown
  have ht : ∀ w ∈ BIG, w.before _ s = true := fun w h => hts w (List.mem_cons_of_mem _ h)
  refine lv_aload_n hx hb d_Z_border_0 rfl (lv_at hl 0 rfl) ?_
  refine lv_iconst (v := 0) hx hb d_Z_border_1 (by decide) ?_
  refine va_put (ci := 5) (v := .int 0) (ty := .int) (C := R_Z) (T := T_Z) (N := 26) hx hb ht in_Z t_Z t_Z_ok n_Z hown hK.1 hP hD hS 0 rfl rfl 0 (by decide) (ht _ k_fl_Z_57) (fun _ h9 => h9) rfl (by decide +kernel) rfl rfl (Nat.le_of_ble_eq_true rfl) d_Z_border_2 (fun H locs hP hD hS => ?_)
  have hP : va_P D vwCl ((wZ cI cL z0 y1 y2 y3 y4 y5 y6 y7 y8 y9 y10 y11 y12 y13 y14 mn oo oa ob ss gg zz md sd da rg pp kp ot 0 li bl nw wr ru al sp en ke kb at0) ++ fr) H := hP
  have hD : va_D A ((wZ cI cL z0 y1 y2 y3 y4 y5 y6 y7 y8 y9 y10 y11 y12 y13 y14 mn oo oa ob ss gg zz md sd da rg pp kp ot 0 li bl nw wr ru al sp en ke kb at0) ++ fr) := hD
  refine lv_iconst (v := 0) hx hb d_Z_border_5 (by decide) ?_
  refine lv_istore_n (lv' := [(1, .int 0), (0, .ref z0)]) hx hb d_Z_border_6 rfl hl (by decide) rfl (fun ls hl => ?_)
  refine lv_iconst (v := 0) hx hb d_Z_border_7 (by decide) ?_
  refine lv_istore_n (lv' := [(2, .int 0), (1, .int 0), (0, .ref z0)]) hx hb d_Z_border_8 rfl hl (by decide) rfl (fun ls hl => ?_)
  have lp : ∀ (n : Nat) (q : Int32) (k : Int32) (s1 : Fn) (da1 : Fn) (w1 : Int32) (H : Heap) (locs : List Loc) (ls : Array Slot), (k.toInt + (n : Int) = 25) → (0 ≤ k.toInt ∧ k.toInt ≤ 24) → (boL zz md bl n k q w1 s1 = boL zz md bl 25 0 0 wr ss) → va_P D vwCl ((wZ cI cL z0 y1 y2 y3 y4 y5 y6 y7 y8 y9 y10 y11 y12 y13 y14 mn oo oa ob s1 gg zz md sd da1 rg pp kp ot 0 li bl nw w1 ru al sp en ke kb at0) ++ fr) H → va_D A ((wZ cI cL z0 y1 y2 y3 y4 y5 y6 y7 y8 y9 y10 y11 y12 y13 y14 mn oo oa ob s1 gg zz md sd da1 rg pp kp ot 0 li bl nw w1 ru al sp en ke kb at0) ++ fr) → va_S A s.heap H locs → lv_has ls 4 [(0, .ref z0), (1, .int q), (2, .int k)] → W p l e ({ frames := 4, cells := 0, slots := 0, locals := 94 } : Room) s m ([.ref z0] : List Value).toArray below meth c H locs 0 0 Q (F0 m 9 ls []) := by
    intro n
    induction n with
    | zero =>
      intro q k s1 da1 w1 H locs ls hn hi hF hP hD hS hl
      exact absurd hn (by omega)
    | succ n ih =>
      intro q k s1 da1 w1 H locs ls hn hi hF hP hD hS hl
      refine lv_iload_n hx hb d_Z_border_9 rfl (lv_at hl 2 rfl) ?_
      refine lv_aload_n hx hb d_Z_border_10 rfl (lv_at hl 0 rfl) ?_
      refine va_get (ci := 5) (v := .int bl) (C := R_Z) (T := T_Z) (N := 26) hx hb ht in_Z hown hK.1 hP 0 rfl rfl 2 (by decide) (ht _ k_fl_Z_60) (fun _ h9 => h9) rfl d_Z_border_11 ?_
      refine lv_icmp_ge (tgt := 92) hx hb d_Z_border_14 (by decide) (fun c_14 => ?_) (fun c_14 => ?_)
      · refine lv_iload_n hx hb d_Z_border_92 rfl (lv_at hl 1 rfl) ?_
        rw [hQ]; exact retMi (w1 := fun u : Int32 × Int32 × Fn × Fn => ((wZ cI cL z0 y1 y2 y3 y4 y5 y6 y7 y8 y9 y10 y11 y12 y13 y14 mn oo oa ob u.2.2.1 gg zz md sd u.2.2.2 rg pp kp ot u.1 li bl nw u.2.1 ru al sp en ke kb at0) ++ fr)) (0, w1, s1, da1) hx hb hr hlocks hP hD hS ⟨(by rw [← hF]; simp only [boL, if_pos c_14]), rfl⟩ d_Z_border_93
      · refine lv_aload_n hx hb d_Z_border_17 rfl (lv_at hl 0 rfl) ?_
        refine va_get (ci := 5) (v := .ref y5) (C := R_Z) (T := T_Z) (N := 26) hx hb ht in_Z hown hK.1 hP 0 rfl rfl 11 (by decide) (ht _ k_fl_Z_22) (fun _ h9 => h9) rfl d_Z_border_18 ?_
        refine lv_iload_n hx hb d_Z_border_21 rfl (lv_at hl 2 rfl) ?_
        refine va_iald hx hb hK.1 hP 5 0 rfl rfl (in_k (in_kb hbl hi c_14)) d_Z_border_22 ?_
        refine lv_iconst (v := 1) hx hb d_Z_border_23 (by decide) ?_
        refine lv_icmp_ne (tgt := 86) hx hb d_Z_border_24 (by decide) (fun c_24 => ?_) (fun c_24 => ?_)
        · refine lv_iinc (v := k + 1) (lv' := [(2, .int (k + 1)), (0, .ref z0), (1, .int q)]) hx hb d_Z_border_86 hl (k := 2) rfl rfl (by decide) rfl (fun ls hl => ?_)
          refine lv_goto (tgt := 9) hx hb d_Z_border_89 (by decide) ?_
          exact ih q (k + 1) s1 da1 w1 _ _ ls (by rw [i32_1 (by omega)]; omega) (by rw [i32_1 (by omega)]; have := in_kb hbl hi c_14; omega) (by rw [← hF]; simp only [boL, if_neg c_14, if_neg c_24]) hP hD hS (lv_sub hl [1, 2, 0] rfl)
        · refine lv_aload_n hx hb d_Z_border_27 rfl (lv_at hl 0 rfl) ?_
          refine lv_iload_n hx hb d_Z_border_28 rfl (lv_at hl 2 rfl) ?_
          refine goMi (va_runV (As := [.int k]) (rest := []) ⟨hx, hb, hml, hown, hts⟩ (c_Z_checkOf l D cI cL cO z0 y1 y2 y3 y4 y5 y6 y7 y8 y9 y10 y11 y12 y13 y14 mn oo oa ob s1 gg zz md sd da1 rg pp kp ot 0 li bl nw w1 ru al sp en ke kb at0 fr k hzz (k_t (in_kb hbl hi c_14)) (hY7.v (in_kb hbl hi c_14)) H.size) (cwV 1 hts (gBIG (m4 k_ml_Z_114 k_im_Z_checkOf k_sel_Z_checkOf k_ini_Z) k_co_Z_checkOf) rfl rfl rfl (by decide +kernel) ⟨Nat.le_of_ble_eq_true rfl, Nat.le_of_ble_eq_true rfl⟩) ⟨PM.bl, va_recv hK.1 hP (ci := 5) (q0 := 0) rfl rfl, PM.pre hP hD hK⟩ rfl rfl hl.1 rfl (lv_room (Nat.le_of_ble_eq_true rfl)) d_Z_border_29 ⟨Nat.le_of_ble_eq_true rfl, Nat.le_of_ble_eq_true rfl⟩) hD hS hA (fun r_29 u H locs hw hP hD hS => ?_)
          obtain ⟨da_29, rfl⟩ : ∃ z, z = u := ⟨_, rfl⟩
          have e_29 : r_29 = vdF (vw 300 md k) (zz k.toNatClampNeg) := hw
          have hP : va_P D vwCl ((wZ cI cL z0 y1 y2 y3 y4 y5 y6 y7 y8 y9 y10 y11 y12 y13 y14 mn oo oa ob s1 gg zz md sd da_29 rg pp kp ot 0 li bl nw w1 ru al sp en ke kb at0) ++ fr) H := hP
          have hD : va_D A ((wZ cI cL z0 y1 y2 y3 y4 y5 y6 y7 y8 y9 y10 y11 y12 y13 y14 mn oo oa ob s1 gg zz md sd da_29 rg pp kp ot 0 li bl nw w1 ru al sp en ke kb at0) ++ fr) := hD
          refine lv_if_ne (tgt := 39) hx hb d_Z_border_32 (by decide) (fun c_32 => ?_) (fun c_32 => ?_)
          · refine lv_iconst (v := 0) hx hb d_Z_border_39 (by decide) ?_
            refine lv_istore_n (lv' := [(3, .int 0), (0, .ref z0), (1, .int q), (2, .int k)]) hx hb d_Z_border_40 rfl hl (by decide) rfl (fun ls hl => ?_)
            refine lv_aload_n hx hb d_Z_border_41 rfl (lv_at hl 1 rfl) ?_
            refine va_get (ci := 5) (v := .ref y5) (C := R_Z) (T := T_Z) (N := 26) hx hb ht in_Z hown hK.1 hP 0 rfl rfl 11 (by decide) (ht _ k_fl_Z_22) (fun _ h9 => h9) rfl d_Z_border_42 ?_
            refine lv_iload_n hx hb d_Z_border_45 rfl (lv_at hl 3 rfl) ?_
            refine lv_iload_n hx hb d_Z_border_46 rfl (lv_at hl 0 rfl) ?_
            refine lv_if_eq (tgt := 54) hx hb d_Z_border_47 (by decide) (fun c_47 => ?_) (fun c_47 => ?_)
            · refine lv_iconst (v := 0) hx hb d_Z_border_54 (by decide) ?_
              refine va_iast hx hb hK.1 hP hD hS 5 0 rfl rfl (in_k (in_kb hbl hi c_14)) d_Z_border_55 (fun H locs hP hD hS => ?_)
              have hP : va_P D vwCl ((wZ cI cL z0 y1 y2 y3 y4 y5 y6 y7 y8 y9 y10 y11 y12 y13 y14 mn oo oa ob (upd s1 k.toNatClampNeg 0) gg zz md sd da_29 rg pp kp ot 0 li bl nw w1 ru al sp en ke kb at0) ++ fr) H := hP
              have hD : va_D A ((wZ cI cL z0 y1 y2 y3 y4 y5 y6 y7 y8 y9 y10 y11 y12 y13 y14 mn oo oa ob (upd s1 k.toNatClampNeg 0) gg zz md sd da_29 rg pp kp ot 0 li bl nw w1 ru al sp en ke kb at0) ++ fr) := hD
              refine lv_iload_n hx hb d_Z_border_56 rfl (lv_at hl 2 rfl) ?_
              refine lv_iload_n hx hb d_Z_border_57 rfl (lv_at hl 0 rfl) ?_
              refine lv_if_eq (tgt := 65) hx hb d_Z_border_58 (by decide) (fun c_58 => ?_) (fun c_58 => ?_)
              · refine lv_iconst (v := 0) hx hb d_Z_border_65 (by decide) ?_
                refine lv_iadd hx hb d_Z_border_66 ?_
                refine lv_istore_n (lv' := [(1, .int (q + 0)), (3, .int 0), (0, .ref z0), (2, .int k)]) hx hb d_Z_border_67 rfl hl (by decide) rfl (fun ls hl => ?_)
                refine lv_aload_n hx hb d_Z_border_68 rfl (lv_at hl 2 rfl) ?_
                refine lv_dup hx hb d_Z_border_69 rfl ?_
                refine va_get (ci := 5) (v := .int w1) (C := R_Z) (T := T_Z) (N := 26) hx hb ht in_Z hown hK.1 hP 0 rfl rfl 4 (by decide) (ht _ k_fl_Z_117) (fun _ h9 => h9) rfl d_Z_border_70 ?_
                refine lv_iload_n hx hb d_Z_border_73 rfl (lv_at hl 1 rfl) ?_
                refine lv_if_eq (tgt := 81) hx hb d_Z_border_74 (by decide) (fun c_74 => ?_) (fun c_74 => ?_)
                · refine lv_iconst (v := 1) hx hb d_Z_border_81 (by decide) ?_
                  refine lv_iadd hx hb d_Z_border_82 ?_
                  refine va_put (ci := 5) (v := .int (w1 + 1)) (ty := .int) (C := R_Z) (T := T_Z) (N := 26) hx hb ht in_Z t_Z t_Z_ok n_Z hown hK.1 hP hD hS 0 rfl rfl 4 (by decide) (ht _ k_fl_Z_117) (fun _ h9 => h9) rfl (by decide +kernel) rfl rfl (Nat.le_of_ble_eq_true rfl) d_Z_border_83 (fun H locs hP hD hS => ?_)
                  have hP : va_P D vwCl ((wZ cI cL z0 y1 y2 y3 y4 y5 y6 y7 y8 y9 y10 y11 y12 y13 y14 mn oo oa ob (upd s1 k.toNatClampNeg 0) gg zz md sd da_29 rg pp kp ot 0 li bl nw (w1 + 1) ru al sp en ke kb at0) ++ fr) H := hP
                  have hD : va_D A ((wZ cI cL z0 y1 y2 y3 y4 y5 y6 y7 y8 y9 y10 y11 y12 y13 y14 mn oo oa ob (upd s1 k.toNatClampNeg 0) gg zz md sd da_29 rg pp kp ot 0 li bl nw (w1 + 1) ru al sp en ke kb at0) ++ fr) := hD
                  refine lv_iinc (v := k + 1) (lv' := [(2, .int (k + 1)), (1, .int (q + 0)), (3, .int 0), (0, .ref z0)]) hx hb d_Z_border_86 hl (k := 3) rfl rfl (by decide) rfl (fun ls hl => ?_)
                  refine lv_goto (tgt := 9) hx hb d_Z_border_89 (by decide) ?_
                  exact ih (q + 0) (k + 1) (upd s1 k.toNatClampNeg 0) da_29 (w1 + 1) _ _ ls (by rw [i32_1 (by omega)]; omega) (by rw [i32_1 (by omega)]; have := in_kb hbl hi c_14; omega) (by rw [← hF]; simp only [boL, ← e_29, if_neg c_14, if_pos c_24, if_neg c_32]) hP hD hS (lv_sub hl [3, 1, 0] rfl)
                · exact absurd c_74 (by decide)
              · exact absurd c_58 (by decide)
            · exact absurd c_47 (by decide)
          · refine lv_iconst (v := 1) hx hb d_Z_border_35 (by decide) ?_
            refine lv_goto (tgt := 40) hx hb d_Z_border_36 (by decide) ?_
            refine lv_istore_n (lv' := [(3, .int 1), (0, .ref z0), (1, .int q), (2, .int k)]) hx hb d_Z_border_40 rfl hl (by decide) rfl (fun ls hl => ?_)
            refine lv_aload_n hx hb d_Z_border_41 rfl (lv_at hl 1 rfl) ?_
            refine va_get (ci := 5) (v := .ref y5) (C := R_Z) (T := T_Z) (N := 26) hx hb ht in_Z hown hK.1 hP 0 rfl rfl 11 (by decide) (ht _ k_fl_Z_22) (fun _ h9 => h9) rfl d_Z_border_42 ?_
            refine lv_iload_n hx hb d_Z_border_45 rfl (lv_at hl 3 rfl) ?_
            refine lv_iload_n hx hb d_Z_border_46 rfl (lv_at hl 0 rfl) ?_
            refine lv_if_eq (tgt := 54) hx hb d_Z_border_47 (by decide) (fun c_47 => ?_) (fun c_47 => ?_)
            · exact absurd c_47 (by decide)
            · refine lv_iconst (v := 2) hx hb d_Z_border_50 (by decide) ?_
              refine lv_goto (tgt := 55) hx hb d_Z_border_51 (by decide) ?_
              refine va_iast hx hb hK.1 hP hD hS 5 0 rfl rfl (in_k (in_kb hbl hi c_14)) d_Z_border_55 (fun H locs hP hD hS => ?_)
              have hP : va_P D vwCl ((wZ cI cL z0 y1 y2 y3 y4 y5 y6 y7 y8 y9 y10 y11 y12 y13 y14 mn oo oa ob (upd s1 k.toNatClampNeg 2) gg zz md sd da_29 rg pp kp ot 0 li bl nw w1 ru al sp en ke kb at0) ++ fr) H := hP
              have hD : va_D A ((wZ cI cL z0 y1 y2 y3 y4 y5 y6 y7 y8 y9 y10 y11 y12 y13 y14 mn oo oa ob (upd s1 k.toNatClampNeg 2) gg zz md sd da_29 rg pp kp ot 0 li bl nw w1 ru al sp en ke kb at0) ++ fr) := hD
              refine lv_iload_n hx hb d_Z_border_56 rfl (lv_at hl 2 rfl) ?_
              refine lv_iload_n hx hb d_Z_border_57 rfl (lv_at hl 0 rfl) ?_
              refine lv_if_eq (tgt := 65) hx hb d_Z_border_58 (by decide) (fun c_58 => ?_) (fun c_58 => ?_)
              · exact absurd c_58 (by decide)
              · refine lv_iconst (v := 1) hx hb d_Z_border_61 (by decide) ?_
                refine lv_goto (tgt := 66) hx hb d_Z_border_62 (by decide) ?_
                refine lv_iadd hx hb d_Z_border_66 ?_
                refine lv_istore_n (lv' := [(1, .int (q + 1)), (3, .int 1), (0, .ref z0), (2, .int k)]) hx hb d_Z_border_67 rfl hl (by decide) rfl (fun ls hl => ?_)
                refine lv_aload_n hx hb d_Z_border_68 rfl (lv_at hl 2 rfl) ?_
                refine lv_dup hx hb d_Z_border_69 rfl ?_
                refine va_get (ci := 5) (v := .int w1) (C := R_Z) (T := T_Z) (N := 26) hx hb ht in_Z hown hK.1 hP 0 rfl rfl 4 (by decide) (ht _ k_fl_Z_117) (fun _ h9 => h9) rfl d_Z_border_70 ?_
                refine lv_iload_n hx hb d_Z_border_73 rfl (lv_at hl 1 rfl) ?_
                refine lv_if_eq (tgt := 81) hx hb d_Z_border_74 (by decide) (fun c_74 => ?_) (fun c_74 => ?_)
                · exact absurd c_74 (by decide)
                · refine lv_iconst (v := 0) hx hb d_Z_border_77 (by decide) ?_
                  refine lv_goto (tgt := 82) hx hb d_Z_border_78 (by decide) ?_
                  refine lv_iadd hx hb d_Z_border_82 ?_
                  refine va_put (ci := 5) (v := .int (w1 + 0)) (ty := .int) (C := R_Z) (T := T_Z) (N := 26) hx hb ht in_Z t_Z t_Z_ok n_Z hown hK.1 hP hD hS 0 rfl rfl 4 (by decide) (ht _ k_fl_Z_117) (fun _ h9 => h9) rfl (by decide +kernel) rfl rfl (Nat.le_of_ble_eq_true rfl) d_Z_border_83 (fun H locs hP hD hS => ?_)
                  have hP : va_P D vwCl ((wZ cI cL z0 y1 y2 y3 y4 y5 y6 y7 y8 y9 y10 y11 y12 y13 y14 mn oo oa ob (upd s1 k.toNatClampNeg 2) gg zz md sd da_29 rg pp kp ot 0 li bl nw (w1 + 0) ru al sp en ke kb at0) ++ fr) H := hP
                  have hD : va_D A ((wZ cI cL z0 y1 y2 y3 y4 y5 y6 y7 y8 y9 y10 y11 y12 y13 y14 mn oo oa ob (upd s1 k.toNatClampNeg 2) gg zz md sd da_29 rg pp kp ot 0 li bl nw (w1 + 0) ru al sp en ke kb at0) ++ fr) := hD
                  refine lv_iinc (v := k + 1) (lv' := [(2, .int (k + 1)), (1, .int (q + 1)), (3, .int 1), (0, .ref z0)]) hx hb d_Z_border_86 hl (k := 3) rfl rfl (by decide) rfl (fun ls hl => ?_)
                  refine lv_goto (tgt := 9) hx hb d_Z_border_89 (by decide) ?_
                  exact ih (q + 1) (k + 1) (upd s1 k.toNatClampNeg 2) da_29 (w1 + 0) _ _ ls (by rw [i32_1 (by omega)]; omega) (by rw [i32_1 (by omega)]; have := in_kb hbl hi c_14; omega) (by rw [← hF]; simp only [boL, ← e_29, if_neg c_14, if_pos c_24, if_pos c_32]) hP hD hS (lv_sub hl [3, 1, 0] rfl)
  exact lp 25 0 0 ss da wr _ _ ls (by decide) (by decide) rfl hP hD hS (lv_sub hl [2, 1, 0] rfl)
