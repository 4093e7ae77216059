def olF (nw li : Int32) : Int32 := if nw - li + 1 ≤ 0 then 0 else nw - li + 1
/-- a generation more: what is older than the oldest becomes rows; (how many, states) -/
def nxL (gg : Fn) (old bl : Int32) : Nat → Int32 → Int32 → Fn → Int32 × Fn
  | 0, _, q, s => (q, s)
  | n + 1, k, q, s => if bl ≤ k then (q, s) else if s k.toNatClampNeg ≤ 0 then nxL gg old bl n (k + 1) q s else if old ≤ gg k.toNatClampNeg then nxL gg old bl n (k + 1) q s else nxL gg old bl n (k + 1) (q + 1) (upd s k.toNatClampNeg 0)
def ctL (ss : Fn) (bl : Int32) : Nat → Int32 → Int32 → Int32 → Int32 × Int32
  | 0, _, h, w => (h, w)
  | n + 1, k, h, w => if bl ≤ k then (h, w) else ctL ss bl n (k + 1) (h + (if ss k.toNatClampNeg = 2 then 1 else 0)) (w + (if ss k.toNatClampNeg = 1 then 1 else 0))
def ctF (ss : Fn) (bl : Int32) : Int32 × Int32 := ctL ss bl 25 0 0 0
def zcnF (w bl nw li wr ru al : Int32) (ss : Fn) : Int32 := if w = 0 then bl else if w = 1 then nw else if w = 2 then olF nw li else if w = 3 then (ctF ss bl).1 else if w = 4 then (ctF ss bl).2 else if w = 5 then wr else if w = 6 then ru else if w = 7 then al else if w = 8 then li else -1
theorem in_kb {k bl : Int32} (hb : 0 ≤ bl.toInt ∧ bl.toInt ≤ 24) (hi : 0 ≤ k.toInt ∧ k.toInt ≤ 24) (c : ¬ bl ≤ k) : 0 ≤ k.toInt ∧ k.toInt < 24 ∧ k.toInt < bl.toInt := by
  have := i_lt c
  omega
theorem P_rep {D : va_G} {cl : List vw_C} {ws : va_W} {A : Nat → Prop} {a N : Nat} {c : ClassId} {f g : FL} {H : Heap} (i : Nat) (hi : ws[i]? = some (a, .inl (c, N, .inr (.inl f)))) (h : ∀ j, j < N → f j = g j) (hD : va_D A ws) (hP : va_P D cl ws H) : va_P D cl (ws.set i (a, .inl (c, N, .inr (.inl g)))) H := by
  refine hP.set hD hi ?_ (fun q _ => rfl)
  have h1 : H[a]? = some (arrV c N (fun j => .long (f j))) := hP i _ hi
  rw [arrV_eq (g := fun j => .long (g j)) (fun j hj => by rw [h j hj])] at h1
  exact h1
theorem P_repi {D : va_G} {cl : List vw_C} {ws : va_W} {A : Nat → Prop} {a N : Nat} {c : ClassId} {f g : Fn} {H : Heap} (i : Nat) (hi : ws[i]? = some (a, .inl (c, N, .inl f))) (h : ∀ j, j < N → f j = g j) (hD : va_D A ws) (hP : va_P D cl ws H) : va_P D cl (ws.set i (a, .inl (c, N, .inl g))) H := by
  refine hP.set hD hi ?_ (fun q _ => rfl)
  have h1 : H[a]? = some (arrV c N (fun j => .int (f j))) := hP i _ hi
  rw [arrV_eq (g := fun j => .int (g j)) (fun j hj => by rw [h j hj])] at h1
  exact h1
theorem beg4 (rg : FL) (x y : Int64) (j : Nat) (hj : j < 4) : vp_updL (vp_updL (vp_updL (vp_updL rg (0 : Int32).toNatClampNeg x) (1 : Int32).toNatClampNeg y) (2 : Int32).toNatClampNeg 0) (3 : Int32).toNatClampNeg 0 j = begR x y j := by
  rcases (show j = 0 ∨ j = 1 ∨ j = 2 ∨ j = 3 by omega) with rfl | rfl | rfl | rfl <;> rfl

abbrev w_Z_oldest : List Cond := .code y_Z_oldest b_Z_oldest 1 (some .int) :: BIG
set_option maxHeartbeats 4000000 in
set_option maxRecDepth 100000 in
theorem c_Z_oldest (l : Launch) (D : va_G) (cI cL cO : ClassId) (z0 : Nat) (y1 : Nat) (y2 : Nat) (y3 : Nat) (y4 : Nat) (y5 : Nat) (y6 : Nat) (y7 : Nat) (y8 : Nat) (y9 : Nat) (y10 : Nat) (y11 : Nat) (y12 : Nat) (y13 : Nat) (y14 : Nat) (mn : Fn) (oo : Fn) (oa : Fn) (ob : Fn) (ss : Fn) (gg : Fn) (zz : Fn) (md : Fn) (sd : Fn) (da : Fn) (rg : FL) (pp : FL) (kp : FL) (ot : FL) (th : Int32) (li : Int32) (bl : Int32) (nw : Int32) (wr : Int32) (ru : Int32) (al : Int32) (sp : Int32) (en : Int32) (ke : Int32) (kb : Int32) (at0 : Int32) : CRi l y_Z_oldest w_Z_oldest ({ frames := 0, cells := 0, slots := 0, locals := 0 }) D cI cL cO [.ref z0] (wZ cI cL z0 y1 y2 y3 y4 y5 y6 y7 y8 y9 y10 y11 y12 y13 y14 mn oo oa ob ss gg zz md sd da rg pp kp ot th li bl nw wr ru al sp en ke kb at0) (olF nw li) := by
  refine ofR (cc := b_Z_oldest) (maxL := 1) (ret := (some .int)) (by decide) rfl (Nat.le_of_ble_eq_true rfl) ?_
  intro p e s m below meth c ls Q hQ hx hb hr hlocks hts hown hml hP hK hl
  have hl : lv_has ls 1 [(0, .ref z0)] := hl
  have hown : s.vm.findClass R_Z = some m.cls := hown
  have ht : ∀ w ∈ BIG, w.before _ s = true := fun w h => hts w (List.mem_cons_of_mem _ h)
  refine lv_aload_n hx hb d_Z_oldest_0 rfl (lv_at hl 0 rfl) ?_
  refine va_get (ci := 5) (v := .int nw) (C := R_Z) (T := T_Z) (N := 26) hx hb ht in_Z hown hK.1 hP 0 rfl rfl 3 (by decide) (ht _ k_fl_Z_96) (fun _ h9 => h9) rfl d_Z_oldest_1 ?_
  refine lv_aload_n hx hb d_Z_oldest_4 rfl (lv_at hl 0 rfl) ?_
  refine va_get (ci := 5) (v := .int li) (C := R_Z) (T := T_Z) (N := 26) hx hb ht in_Z hown hK.1 hP 0 rfl rfl 1 (by decide) (ht _ k_fl_Z_53) (fun _ h9 => h9) rfl d_Z_oldest_5 ?_
  refine lv_isub hx hb d_Z_oldest_8 ?_
  refine lv_iconst (v := 1) hx hb d_Z_oldest_9 (by decide) ?_
  refine lv_iadd hx hb d_Z_oldest_10 ?_
  refine lv_if_le (tgt := 28) hx hb d_Z_oldest_11 (by decide) (fun c_11 => ?_) (fun c_11 => ?_)
  · refine lv_iconst (v := 0) hx hb d_Z_oldest_28 (by decide) ?_
    rw [hQ]; exact retRi hx hb hr hlocks (by first | (simp only [olF, if_pos c_11]; done) | simp [olF, c_11]) d_Z_oldest_29
  · refine lv_aload_n hx hb d_Z_oldest_14 rfl (lv_at hl 0 rfl) ?_
    refine va_get (ci := 5) (v := .int nw) (C := R_Z) (T := T_Z) (N := 26) hx hb ht in_Z hown hK.1 hP 0 rfl rfl 3 (by decide) (ht _ k_fl_Z_96) (fun _ h9 => h9) rfl d_Z_oldest_15 ?_
    refine lv_aload_n hx hb d_Z_oldest_18 rfl (lv_at hl 0 rfl) ?_
    refine va_get (ci := 5) (v := .int li) (C := R_Z) (T := T_Z) (N := 26) hx hb ht in_Z hown hK.1 hP 0 rfl rfl 1 (by decide) (ht _ k_fl_Z_53) (fun _ h9 => h9) rfl d_Z_oldest_19 ?_
    refine lv_isub hx hb d_Z_oldest_22 ?_
    refine lv_iconst (v := 1) hx hb d_Z_oldest_23 (by decide) ?_
    refine lv_iadd hx hb d_Z_oldest_24 ?_
    refine lv_goto (tgt := 29) hx hb d_Z_oldest_25 (by decide) ?_
    rw [hQ]; exact retRi hx hb hr hlocks (by first | (simp only [olF, if_neg c_11]; done) | simp [olF, c_11]) d_Z_oldest_29

abbrev w_Z_next : List Cond := .code y_Z_next b_Z_next 3 (some .int) :: BIG
set_option maxHeartbeats 4000000 in
set_option maxRecDepth 100000 in
theorem c_Z_next (l : Launch) (D : va_G) (cI cL cO : ClassId) (z0 : Nat) (y1 : Nat) (y2 : Nat) (y3 : Nat) (y4 : Nat) (y5 : Nat) (y6 : Nat) (y7 : Nat) (y8 : Nat) (y9 : Nat) (y10 : Nat) (y11 : Nat) (y12 : Nat) (y13 : Nat) (y14 : Nat) (mn : Fn) (oo : Fn) (oa : Fn) (ob : Fn) (ss : Fn) (gg : Fn) (zz : Fn) (md : Fn) (sd : Fn) (da : Fn) (rg : FL) (pp : FL) (kp : FL) (ot : FL) (th : Int32) (li : Int32) (bl : Int32) (nw : Int32) (wr : Int32) (ru : Int32) (al : Int32) (sp : Int32) (en : Int32) (ke : Int32) (kb : Int32) (at0 : Int32) (fr : va_W) (hbl : 0 ≤ bl.toInt ∧ bl.toInt ≤ 24) : CMi l y_Z_next w_Z_next ({ frames := 1, cells := 0, slots := 0, locals := 20 }) D cI cL cO [.ref z0] ((wZ cI cL z0 y1 y2 y3 y4 y5 y6 y7 y8 y9 y10 y11 y12 y13 y14 mn oo oa ob ss gg zz md sd da rg pp kp ot th li bl nw wr ru al sp en ke kb at0) ++ fr) (fun (r : Int32) (u : Int32 × Int32 × Fn) => (r, u.2.2) = nxL gg (olF (nw + 1) li) bl 25 0 0 ss ∧ u.1 = 0 ∧ u.2.1 = nw + 1) (fun u : Int32 × Int32 × Fn => ((wZ cI cL z0 y1 y2 y3 y4 y5 y6 y7 y8 y9 y10 y11 y12 y13 y14 mn oo oa ob u.2.2 gg zz md sd da rg pp kp ot u.1 li bl u.2.1 wr ru al sp en ke kb at0) ++ fr)) 0 0 := by
  refine ofMi (cc := b_Z_next) (maxL := 3) (ret := (some .int)) (by decide) rfl (Nat.le_of_ble_eq_true rfl) ?_
  intro p e s m below meth c A ls H Q hQ hx hb hr hlocks hin hts hown hml hP hK hD hS hA hl
  have hl : lv_has ls 3 [(0, .ref z0)] := hl
  have hown : s.vm.findClass R_Z = some m.cls := hown
  have ht : ∀ w ∈ BIG, w.before _ s = true := fun w h => hts w (List.mem_cons_of_mem _ h)
  refine lv_aload_n hx hb d_Z_next_0 rfl (lv_at hl 0 rfl) ?_
  refine lv_iconst (v := 0) hx hb d_Z_next_1 (by decide) ?_
  refine va_put (ci := 5) (v := .int 0) (ty := .int) (C := R_Z) (T := T_Z) (N := 26) hx hb ht in_Z t_Z t_Z_ok n_Z hown hK.1 hP hD hS 0 rfl rfl 0 (by decide) (ht _ k_fl_Z_57) (fun _ h9 => h9) rfl (by decide +kernel) rfl rfl (Nat.le_of_ble_eq_true rfl) d_Z_next_2 (fun H locs hP hD hS => ?_)
  have hP : va_P D vwCl ((wZ cI cL z0 y1 y2 y3 y4 y5 y6 y7 y8 y9 y10 y11 y12 y13 y14 mn oo oa ob ss gg zz md sd da rg pp kp ot 0 li bl nw wr ru al sp en ke kb at0) ++ fr) H := hP
  have hD : va_D A ((wZ cI cL z0 y1 y2 y3 y4 y5 y6 y7 y8 y9 y10 y11 y12 y13 y14 mn oo oa ob ss gg zz md sd da rg pp kp ot 0 li bl nw wr ru al sp en ke kb at0) ++ fr) := hD
  refine lv_aload_n hx hb d_Z_next_5 rfl (lv_at hl 0 rfl) ?_
  refine lv_dup hx hb d_Z_next_6 rfl ?_
  refine va_get (ci := 5) (v := .int nw) (C := R_Z) (T := T_Z) (N := 26) hx hb ht in_Z hown hK.1 hP 0 rfl rfl 3 (by decide) (ht _ k_fl_Z_96) (fun _ h9 => h9) rfl d_Z_next_7 ?_
  refine lv_iconst (v := 1) hx hb d_Z_next_10 (by decide) ?_
  refine lv_iadd hx hb d_Z_next_11 ?_
  refine va_put (ci := 5) (v := .int (nw + 1)) (ty := .int) (C := R_Z) (T := T_Z) (N := 26) hx hb ht in_Z t_Z t_Z_ok n_Z hown hK.1 hP hD hS 0 rfl rfl 3 (by decide) (ht _ k_fl_Z_96) (fun _ h9 => h9) rfl (by decide +kernel) rfl rfl (Nat.le_of_ble_eq_true rfl) d_Z_next_12 (fun H locs hP hD hS => ?_)
  have hP : va_P D vwCl ((wZ cI cL z0 y1 y2 y3 y4 y5 y6 y7 y8 y9 y10 y11 y12 y13 y14 mn oo oa ob ss gg zz md sd da rg pp kp ot 0 li bl (nw + 1) wr ru al sp en ke kb at0) ++ fr) H := hP
  have hD : va_D A ((wZ cI cL z0 y1 y2 y3 y4 y5 y6 y7 y8 y9 y10 y11 y12 y13 y14 mn oo oa ob ss gg zz md sd da rg pp kp ot 0 li bl (nw + 1) wr ru al sp en ke kb at0) ++ fr) := hD
  refine lv_iconst (v := 0) hx hb d_Z_next_15 (by decide) ?_
  refine lv_istore_n (lv' := [(1, .int 0), (0, .ref z0)]) hx hb d_Z_next_16 rfl hl (by decide) rfl (fun ls hl => ?_)
  refine lv_iconst (v := 0) hx hb d_Z_next_17 (by decide) ?_
  refine lv_istore_n (lv' := [(2, .int 0), (1, .int 0), (0, .ref z0)]) hx hb d_Z_next_18 rfl hl (by decide) rfl (fun ls hl => ?_)
  have lp : ∀ (n : Nat) (q : Int32) (k : Int32) (s1 : Fn) (H : Heap) (locs : List Loc) (ls : Array Slot), (k.toInt + (n : Int) = 25) → (0 ≤ k.toInt ∧ k.toInt ≤ 24) → (nxL gg (olF (nw + 1) li) bl n k q s1 = nxL gg (olF (nw + 1) li) bl 25 0 0 ss) → va_P D vwCl ((wZ cI cL z0 y1 y2 y3 y4 y5 y6 y7 y8 y9 y10 y11 y12 y13 y14 mn oo oa ob s1 gg zz md sd da rg pp kp ot 0 li bl (nw + 1) wr ru al sp en ke kb at0) ++ fr) H → va_D A ((wZ cI cL z0 y1 y2 y3 y4 y5 y6 y7 y8 y9 y10 y11 y12 y13 y14 mn oo oa ob s1 gg zz md sd da rg pp kp ot 0 li bl (nw + 1) wr ru al sp en ke kb at0) ++ fr) → va_S A s.heap H locs → lv_has ls 3 [(0, .ref z0), (1, .int q), (2, .int k)] → W p l e ({ frames := 1, cells := 0, slots := 0, locals := 20 } : Room) s m ([.ref z0] : List Value).toArray below meth c H locs 0 0 Q (F0 m 19 ls []) := by
    intro n
    induction n with
    | zero =>
      intro q k s1 H locs ls hn hi hF hP hD hS hl
      exact absurd hn (by omega)
    | succ n ih =>
      intro q k s1 H locs ls hn hi hF hP hD hS hl
      refine lv_iload_n hx hb d_Z_next_19 rfl (lv_at hl 2 rfl) ?_
      refine lv_aload_n hx hb d_Z_next_20 rfl (lv_at hl 0 rfl) ?_
      refine va_get (ci := 5) (v := .int bl) (C := R_Z) (T := T_Z) (N := 26) hx hb ht in_Z hown hK.1 hP 0 rfl rfl 2 (by decide) (ht _ k_fl_Z_60) (fun _ h9 => h9) rfl d_Z_next_21 ?_
      refine lv_icmp_ge (tgt := 65) hx hb d_Z_next_24 (by decide) (fun c_24 => ?_) (fun c_24 => ?_)
      · refine lv_iload_n hx hb d_Z_next_65 rfl (lv_at hl 1 rfl) ?_
        rw [hQ]; exact retMi (w1 := fun u : Int32 × Int32 × Fn => ((wZ cI cL z0 y1 y2 y3 y4 y5 y6 y7 y8 y9 y10 y11 y12 y13 y14 mn oo oa ob u.2.2 gg zz md sd da rg pp kp ot u.1 li bl u.2.1 wr ru al sp en ke kb at0) ++ fr)) (0, nw + 1, s1) hx hb hr hlocks hP hD hS ⟨(by rw [← hF]; first | (simp only [nxL, if_pos c_24]; done) | simp [nxL, c_24]), rfl, rfl⟩ d_Z_next_66
      · refine lv_aload_n hx hb d_Z_next_27 rfl (lv_at hl 0 rfl) ?_
        refine va_get (ci := 5) (v := .ref y5) (C := R_Z) (T := T_Z) (N := 26) hx hb ht in_Z hown hK.1 hP 0 rfl rfl 11 (by decide) (ht _ k_fl_Z_22) (fun _ h9 => h9) rfl d_Z_next_28 ?_
        refine lv_iload_n hx hb d_Z_next_31 rfl (lv_at hl 2 rfl) ?_
        refine va_iald hx hb hK.1 hP 5 0 rfl rfl (in_k (in_kb hbl hi c_24)) d_Z_next_32 ?_
        refine lv_if_le (tgt := 59) hx hb d_Z_next_33 (by decide) (fun c_33 => ?_) (fun c_33 => ?_)
        · refine lv_iinc (v := k + 1) (lv' := [(2, .int (k + 1)), (0, .ref z0), (1, .int q)]) hx hb d_Z_next_59 hl (k := 2) rfl rfl (by decide) rfl (fun ls hl => ?_)
          refine lv_goto (tgt := 19) hx hb d_Z_next_62 (by decide) ?_
          exact ih q (k + 1) s1 _ _ ls (by rw [i32_1 (by omega)]; omega) (by rw [i32_1 (by omega)]; have := in_kb hbl hi c_24; omega) (by rw [← hF]; first | (simp only [nxL, if_neg c_24, if_pos c_33]; done) | simp [nxL, c_24, c_33]) hP hD hS (lv_sub hl [1, 2, 0] rfl)
        · refine lv_aload_n hx hb d_Z_next_36 rfl (lv_at hl 0 rfl) ?_
          refine va_get (ci := 5) (v := .ref y6) (C := R_Z) (T := T_Z) (N := 26) hx hb ht in_Z hown hK.1 hP 0 rfl rfl 12 (by decide) (ht _ k_fl_Z_25) (fun _ h9 => h9) rfl d_Z_next_37 ?_
          refine lv_iload_n hx hb d_Z_next_40 rfl (lv_at hl 2 rfl) ?_
          refine va_iald hx hb hK.1 hP 6 0 rfl rfl (in_k (in_kb hbl hi c_24)) d_Z_next_41 ?_
          refine lv_aload_n hx hb d_Z_next_42 rfl (lv_at hl 0 rfl) ?_
          refine goRi (va_runV (As := []) (rest := [.int (gg k.toNatClampNeg)]) ⟨hx, hb, hml, hown, hts⟩ (c_Z_oldest l D cI cL cO z0 y1 y2 y3 y4 y5 y6 y7 y8 y9 y10 y11 y12 y13 y14 mn oo oa ob s1 gg zz md sd da rg pp kp ot 0 li bl (nw + 1) wr ru al sp en ke kb at0) (cwV 0 hts (gBIG (m4 k_ml_Z_120 k_im_Z_oldest k_sel_Z_oldest k_ini_Z) k_co_Z_oldest) rfl rfl rfl (by decide +kernel) ⟨Nat.le_of_ble_eq_true rfl, Nat.le_of_ble_eq_true rfl⟩) ⟨PR.bl, va_recv hK.1 ((P_app.mp hP).1) (ci := 5) (q0 := 0) rfl rfl, PR.pre ((P_app.mp hP).1) hK⟩ rfl rfl hl.1 rfl (lv_room (Nat.le_of_ble_eq_true rfl)) d_Z_next_43 ⟨Nat.le_of_ble_eq_true rfl, Nat.le_of_ble_eq_true rfl⟩) ?_
          refine lv_icmp_ge (tgt := 59) hx hb d_Z_next_46 (by decide) (fun c_46 => ?_) (fun c_46 => ?_)
          · refine lv_iinc (v := k + 1) (lv' := [(2, .int (k + 1)), (0, .ref z0), (1, .int q)]) hx hb d_Z_next_59 hl (k := 2) rfl rfl (by decide) rfl (fun ls hl => ?_)
            refine lv_goto (tgt := 19) hx hb d_Z_next_62 (by decide) ?_
            exact ih q (k + 1) s1 _ _ ls (by rw [i32_1 (by omega)]; omega) (by rw [i32_1 (by omega)]; have := in_kb hbl hi c_24; omega) (by rw [← hF]; first | (simp only [nxL, if_neg c_24, if_neg c_33, if_pos c_46]; done) | simp [nxL, c_24, c_33, c_46]) hP hD hS (lv_sub hl [1, 2, 0] rfl)
          · refine lv_aload_n hx hb d_Z_next_49 rfl (lv_at hl 0 rfl) ?_
            refine va_get (ci := 5) (v := .ref y5) (C := R_Z) (T := T_Z) (N := 26) hx hb ht in_Z hown hK.1 hP 0 rfl rfl 11 (by decide) (ht _ k_fl_Z_22) (fun _ h9 => h9) rfl d_Z_next_50 ?_
            refine lv_iload_n hx hb d_Z_next_53 rfl (lv_at hl 2 rfl) ?_
            refine lv_iconst (v := 0) hx hb d_Z_next_54 (by decide) ?_
            refine va_iast hx hb hK.1 hP hD hS 5 0 rfl rfl (in_k (in_kb hbl hi c_24)) d_Z_next_55 (fun H locs hP hD hS => ?_)
            have hP : va_P D vwCl ((wZ cI cL z0 y1 y2 y3 y4 y5 y6 y7 y8 y9 y10 y11 y12 y13 y14 mn oo oa ob (upd s1 k.toNatClampNeg 0) gg zz md sd da rg pp kp ot 0 li bl (nw + 1) wr ru al sp en ke kb at0) ++ fr) H := hP
            have hD : va_D A ((wZ cI cL z0 y1 y2 y3 y4 y5 y6 y7 y8 y9 y10 y11 y12 y13 y14 mn oo oa ob (upd s1 k.toNatClampNeg 0) gg zz md sd da rg pp kp ot 0 li bl (nw + 1) wr ru al sp en ke kb at0) ++ fr) := hD
            refine lv_iinc (v := q + 1) (lv' := [(1, .int (q + 1)), (0, .ref z0), (2, .int k)]) hx hb d_Z_next_56 hl (k := 1) rfl rfl (by decide) rfl (fun ls hl => ?_)
            refine lv_iinc (v := k + 1) (lv' := [(2, .int (k + 1)), (1, .int (q + 1)), (0, .ref z0)]) hx hb d_Z_next_59 hl (k := 2) rfl rfl (by decide) rfl (fun ls hl => ?_)
            refine lv_goto (tgt := 19) hx hb d_Z_next_62 (by decide) ?_
            exact ih (q + 1) (k + 1) (upd s1 k.toNatClampNeg 0) _ _ ls (by rw [i32_1 (by omega)]; omega) (by rw [i32_1 (by omega)]; have := in_kb hbl hi c_24; omega) (by rw [← hF]; first | (simp only [nxL, if_neg c_24, if_neg c_33, if_neg c_46]; done) | simp [nxL, c_24, c_33, c_46]) hP hD hS (lv_sub hl [2, 1, 0] rfl)
  exact lp 25 0 0 ss _ _ ls (by decide) (by decide) rfl hP hD hS (lv_sub hl [2, 1, 0] rfl)

abbrev w_Z_count : List Cond := .code y_Z_count b_Z_count 5 (some .int) :: BIG
set_option maxHeartbeats 4000000 in
set_option maxRecDepth 100000 in
theorem c_Z_count (l : Launch) (D : va_G) (cI cL cO : ClassId) (z0 : Nat) (y1 : Nat) (y2 : Nat) (y3 : Nat) (y4 : Nat) (y5 : Nat) (y6 : Nat) (y7 : Nat) (y8 : Nat) (y9 : Nat) (y10 : Nat) (y11 : Nat) (y12 : Nat) (y13 : Nat) (y14 : Nat) (mn : Fn) (oo : Fn) (oa : Fn) (ob : Fn) (ss : Fn) (gg : Fn) (zz : Fn) (md : Fn) (sd : Fn) (da : Fn) (rg : FL) (pp : FL) (kp : FL) (ot : FL) (th : Int32) (li : Int32) (bl : Int32) (nw : Int32) (wr : Int32) (ru : Int32) (al : Int32) (sp : Int32) (en : Int32) (ke : Int32) (kb : Int32) (at0 : Int32) (fr : va_W) (w : Int32) (hbl : 0 ≤ bl.toInt ∧ bl.toInt ≤ 24) : CMi l y_Z_count w_Z_count ({ frames := 1, cells := 0, slots := 0, locals := 20 }) D cI cL cO [.ref z0, .int w] ((wZ cI cL z0 y1 y2 y3 y4 y5 y6 y7 y8 y9 y10 y11 y12 y13 y14 mn oo oa ob ss gg zz md sd da rg pp kp ot th li bl nw wr ru al sp en ke kb at0) ++ fr) (fun (r : Int32) (u : Int32) => r = zcnF w bl nw li wr ru al ss ∧ u = 0) (fun u : Int32 => ((wZ cI cL z0 y1 y2 y3 y4 y5 y6 y7 y8 y9 y10 y11 y12 y13 y14 mn oo oa ob ss gg zz md sd da rg pp kp ot u li bl nw wr ru al sp en ke kb at0) ++ fr)) 0 0 := by
  refine ofMi (cc := b_Z_count) (maxL := 5) (ret := (some .int)) (by decide) rfl (Nat.le_of_ble_eq_true rfl) ?_
  intro p e s m below meth c A ls H Q hQ hx hb hr hlocks hin hts hown hml hP hK hD hS hA hl
  have hl : lv_has ls 5 [(0, .ref z0), (1, .int w)] := hl
  have hown : s.vm.findClass R_Z = some m.cls := hown
  have ht : ∀ w ∈ BIG, w.before _ s = true := fun w h => hts w (List.mem_cons_of_mem _ h)
  refine lv_aload_n hx hb d_Z_count_0 rfl (lv_at hl 0 rfl) ?_
  refine lv_iconst (v := 0) hx hb d_Z_count_1 (by decide) ?_
  refine va_put (ci := 5) (v := .int 0) (ty := .int) (C := R_Z) (T := T_Z) (N := 26) hx hb ht in_Z t_Z t_Z_ok n_Z hown hK.1 hP hD hS 0 rfl rfl 0 (by decide) (ht _ k_fl_Z_57) (fun _ h9 => h9) rfl (by decide +kernel) rfl rfl (Nat.le_of_ble_eq_true rfl) d_Z_count_2 (fun H locs hP hD hS => ?_)
  have hP : va_P D vwCl ((wZ cI cL z0 y1 y2 y3 y4 y5 y6 y7 y8 y9 y10 y11 y12 y13 y14 mn oo oa ob ss gg zz md sd da rg pp kp ot 0 li bl nw wr ru al sp en ke kb at0) ++ fr) H := hP
  have hD : va_D A ((wZ cI cL z0 y1 y2 y3 y4 y5 y6 y7 y8 y9 y10 y11 y12 y13 y14 mn oo oa ob ss gg zz md sd da rg pp kp ot 0 li bl nw wr ru al sp en ke kb at0) ++ fr) := hD
  refine lv_iconst (v := 0) hx hb d_Z_count_5 (by decide) ?_
  refine lv_istore_n (lv' := [(2, .int 0), (0, .ref z0), (1, .int w)]) hx hb d_Z_count_6 rfl hl (by decide) rfl (fun ls hl => ?_)
  refine lv_iconst (v := 0) hx hb d_Z_count_7 (by decide) ?_
  refine lv_istore_n (lv' := [(3, .int 0), (2, .int 0), (0, .ref z0), (1, .int w)]) hx hb d_Z_count_8 rfl hl (by decide) rfl (fun ls hl => ?_)
  refine lv_iconst (v := 0) hx hb d_Z_count_9 (by decide) ?_
  refine lv_istore (lv' := [(4, .int 0), (3, .int 0), (2, .int 0), (0, .ref z0), (1, .int w)]) hx hb d_Z_count_10 hl (by decide) rfl (fun ls hl => ?_)
  have lp : ∀ (n : Nat) (h1 : Int32) (w1 : Int32) (k : Int32) (H : Heap) (locs : List Loc) (ls : Array Slot), (k.toInt + (n : Int) = 25) → (0 ≤ k.toInt ∧ k.toInt ≤ 24) → (ctL ss bl n k h1 w1 = ctF ss bl) → va_P D vwCl ((wZ cI cL z0 y1 y2 y3 y4 y5 y6 y7 y8 y9 y10 y11 y12 y13 y14 mn oo oa ob ss gg zz md sd da rg pp kp ot 0 li bl nw wr ru al sp en ke kb at0) ++ fr) H → va_D A ((wZ cI cL z0 y1 y2 y3 y4 y5 y6 y7 y8 y9 y10 y11 y12 y13 y14 mn oo oa ob ss gg zz md sd da rg pp kp ot 0 li bl nw wr ru al sp en ke kb at0) ++ fr) → va_S A s.heap H locs → lv_has ls 5 [(0, .ref z0), (1, .int w), (2, .int h1), (3, .int w1), (4, .int k)] → W p l e ({ frames := 1, cells := 0, slots := 0, locals := 20 } : Room) s m ([.ref z0, .int w] : List Value).toArray below meth c H locs 0 0 Q (F0 m 12 ls []) := by
    intro n
    induction n with
    | zero =>
      intro h1 w1 k H locs ls hn hi hF hP hD hS hl
      exact absurd hn (by omega)
    | succ n ih =>
      intro h1 w1 k H locs ls hn hi hF hP hD hS hl
      refine lv_iload hx hb d_Z_count_12 (lv_at hl 4 rfl) ?_
      refine lv_aload_n hx hb d_Z_count_14 rfl (lv_at hl 0 rfl) ?_
      refine va_get (ci := 5) (v := .int bl) (C := R_Z) (T := T_Z) (N := 26) hx hb ht in_Z hown hK.1 hP 0 rfl rfl 2 (by decide) (ht _ k_fl_Z_60) (fun _ h9 => h9) rfl d_Z_count_15 ?_
      refine lv_icmp_ge (tgt := 65) hx hb d_Z_count_18 (by decide) (fun c_18 => ?_) (fun c_18 => ?_)
      · refine lv_iload_n hx hb d_Z_count_65 rfl (lv_at hl 1 rfl) ?_
        by_cases c_66_0 : w = 0
        · refine lv_tableIn (off := 50) (tgt := 116) hx hb d_Z_count_66 (by rw [c_66_0]; decide) (by rw [c_66_0]; decide) (by rw [c_66_0] <;> rfl) (by decide) ?_
          refine lv_aload_n hx hb d_Z_count_116 rfl (lv_at hl 0 rfl) ?_
          refine va_get (ci := 5) (v := .int bl) (C := R_Z) (T := T_Z) (N := 26) hx hb ht in_Z hown hK.1 hP 0 rfl rfl 2 (by decide) (ht _ k_fl_Z_60) (fun _ h9 => h9) rfl d_Z_count_117 ?_
          rw [hQ]; exact retMi (w1 := fun u : Int32 => ((wZ cI cL z0 y1 y2 y3 y4 y5 y6 y7 y8 y9 y10 y11 y12 y13 y14 mn oo oa ob ss gg zz md sd da rg pp kp ot u li bl nw wr ru al sp en ke kb at0) ++ fr)) 0 hx hb hr hlocks hP hD hS ⟨(by simp only [zcnF, if_pos c_18, if_pos c_66_0, ← hF, ctL]), rfl⟩ d_Z_count_120
        by_cases c_66_1 : w = 1
        · refine lv_tableIn (off := 55) (tgt := 121) hx hb d_Z_count_66 (by rw [c_66_1]; decide) (by rw [c_66_1]; decide) (by rw [c_66_1] <;> rfl) (by decide) ?_
          refine lv_aload_n hx hb d_Z_count_121 rfl (lv_at hl 0 rfl) ?_
          refine va_get (ci := 5) (v := .int nw) (C := R_Z) (T := T_Z) (N := 26) hx hb ht in_Z hown hK.1 hP 0 rfl rfl 3 (by decide) (ht _ k_fl_Z_96) (fun _ h9 => h9) rfl d_Z_count_122 ?_
          rw [hQ]; exact retMi (w1 := fun u : Int32 => ((wZ cI cL z0 y1 y2 y3 y4 y5 y6 y7 y8 y9 y10 y11 y12 y13 y14 mn oo oa ob ss gg zz md sd da rg pp kp ot u li bl nw wr ru al sp en ke kb at0) ++ fr)) 0 hx hb hr hlocks hP hD hS ⟨(by simp only [zcnF, if_pos c_18, if_neg c_66_0, if_pos c_66_1, ← hF, ctL]), rfl⟩ d_Z_count_125
        by_cases c_66_2 : w = 2
        · refine lv_tableIn (off := 60) (tgt := 126) hx hb d_Z_count_66 (by rw [c_66_2]; decide) (by rw [c_66_2]; decide) (by rw [c_66_2] <;> rfl) (by decide) ?_
          refine lv_aload_n hx hb d_Z_count_126 rfl (lv_at hl 0 rfl) ?_
          refine goRi (va_runV (As := []) (rest := []) ⟨hx, hb, hml, hown, hts⟩ (c_Z_oldest l D cI cL cO z0 y1 y2 y3 y4 y5 y6 y7 y8 y9 y10 y11 y12 y13 y14 mn oo oa ob ss gg zz md sd da rg pp kp ot 0 li bl nw wr ru al sp en ke kb at0) (cwV 0 hts (gBIG (m4 k_ml_Z_120 k_im_Z_oldest k_sel_Z_oldest k_ini_Z) k_co_Z_oldest) rfl rfl rfl (by decide +kernel) ⟨Nat.le_of_ble_eq_true rfl, Nat.le_of_ble_eq_true rfl⟩) ⟨PR.bl, va_recv hK.1 ((P_app.mp hP).1) (ci := 5) (q0 := 0) rfl rfl, PR.pre ((P_app.mp hP).1) hK⟩ rfl rfl hl.1 rfl (lv_room (Nat.le_of_ble_eq_true rfl)) d_Z_count_127 ⟨Nat.le_of_ble_eq_true rfl, Nat.le_of_ble_eq_true rfl⟩) ?_
          rw [hQ]; exact retMi (w1 := fun u : Int32 => ((wZ cI cL z0 y1 y2 y3 y4 y5 y6 y7 y8 y9 y10 y11 y12 y13 y14 mn oo oa ob ss gg zz md sd da rg pp kp ot u li bl nw wr ru al sp en ke kb at0) ++ fr)) 0 hx hb hr hlocks hP hD hS ⟨(by simp only [zcnF, if_pos c_18, if_neg c_66_0, if_neg c_66_1, if_pos c_66_2, ← hF, ctL]), rfl⟩ d_Z_count_130
        by_cases c_66_3 : w = 3
        · refine lv_tableIn (off := 65) (tgt := 131) hx hb d_Z_count_66 (by rw [c_66_3]; decide) (by rw [c_66_3]; decide) (by rw [c_66_3] <;> rfl) (by decide) ?_
          refine lv_iload_n hx hb d_Z_count_131 rfl (lv_at hl 2 rfl) ?_
          rw [hQ]; exact retMi (w1 := fun u : Int32 => ((wZ cI cL z0 y1 y2 y3 y4 y5 y6 y7 y8 y9 y10 y11 y12 y13 y14 mn oo oa ob ss gg zz md sd da rg pp kp ot u li bl nw wr ru al sp en ke kb at0) ++ fr)) 0 hx hb hr hlocks hP hD hS ⟨(by simp only [zcnF, if_pos c_18, if_neg c_66_0, if_neg c_66_1, if_neg c_66_2, if_pos c_66_3, ← hF, ctL]), rfl⟩ d_Z_count_132
        by_cases c_66_4 : w = 4
        · refine lv_tableIn (off := 67) (tgt := 133) hx hb d_Z_count_66 (by rw [c_66_4]; decide) (by rw [c_66_4]; decide) (by rw [c_66_4] <;> rfl) (by decide) ?_
          refine lv_iload_n hx hb d_Z_count_133 rfl (lv_at hl 3 rfl) ?_
          rw [hQ]; exact retMi (w1 := fun u : Int32 => ((wZ cI cL z0 y1 y2 y3 y4 y5 y6 y7 y8 y9 y10 y11 y12 y13 y14 mn oo oa ob ss gg zz md sd da rg pp kp ot u li bl nw wr ru al sp en ke kb at0) ++ fr)) 0 hx hb hr hlocks hP hD hS ⟨(by simp only [zcnF, if_pos c_18, if_neg c_66_0, if_neg c_66_1, if_neg c_66_2, if_neg c_66_3, if_pos c_66_4, ← hF, ctL]), rfl⟩ d_Z_count_134
        by_cases c_66_5 : w = 5
        · refine lv_tableIn (off := 69) (tgt := 135) hx hb d_Z_count_66 (by rw [c_66_5]; decide) (by rw [c_66_5]; decide) (by rw [c_66_5] <;> rfl) (by decide) ?_
          refine lv_aload_n hx hb d_Z_count_135 rfl (lv_at hl 0 rfl) ?_
          refine va_get (ci := 5) (v := .int wr) (C := R_Z) (T := T_Z) (N := 26) hx hb ht in_Z hown hK.1 hP 0 rfl rfl 4 (by decide) (ht _ k_fl_Z_117) (fun _ h9 => h9) rfl d_Z_count_136 ?_
          rw [hQ]; exact retMi (w1 := fun u : Int32 => ((wZ cI cL z0 y1 y2 y3 y4 y5 y6 y7 y8 y9 y10 y11 y12 y13 y14 mn oo oa ob ss gg zz md sd da rg pp kp ot u li bl nw wr ru al sp en ke kb at0) ++ fr)) 0 hx hb hr hlocks hP hD hS ⟨(by simp only [zcnF, if_pos c_18, if_neg c_66_0, if_neg c_66_1, if_neg c_66_2, if_neg c_66_3, if_neg c_66_4, if_pos c_66_5, ← hF, ctL]), rfl⟩ d_Z_count_139
        by_cases c_66_6 : w = 6
        · refine lv_tableIn (off := 74) (tgt := 140) hx hb d_Z_count_66 (by rw [c_66_6]; decide) (by rw [c_66_6]; decide) (by rw [c_66_6] <;> rfl) (by decide) ?_
          refine lv_aload_n hx hb d_Z_count_140 rfl (lv_at hl 0 rfl) ?_
          refine va_get (ci := 5) (v := .int ru) (C := R_Z) (T := T_Z) (N := 26) hx hb ht in_Z hown hK.1 hP 0 rfl rfl 5 (by decide) (ht _ k_fl_Z_155) (fun _ h9 => h9) rfl d_Z_count_141 ?_
          rw [hQ]; exact retMi (w1 := fun u : Int32 => ((wZ cI cL z0 y1 y2 y3 y4 y5 y6 y7 y8 y9 y10 y11 y12 y13 y14 mn oo oa ob ss gg zz md sd da rg pp kp ot u li bl nw wr ru al sp en ke kb at0) ++ fr)) 0 hx hb hr hlocks hP hD hS ⟨(by simp only [zcnF, if_pos c_18, if_neg c_66_0, if_neg c_66_1, if_neg c_66_2, if_neg c_66_3, if_neg c_66_4, if_neg c_66_5, if_pos c_66_6, ← hF, ctL]), rfl⟩ d_Z_count_144
        by_cases c_66_7 : w = 7
        · refine lv_tableIn (off := 79) (tgt := 145) hx hb d_Z_count_66 (by rw [c_66_7]; decide) (by rw [c_66_7]; decide) (by rw [c_66_7] <;> rfl) (by decide) ?_
          refine lv_aload_n hx hb d_Z_count_145 rfl (lv_at hl 0 rfl) ?_
          refine va_get (ci := 5) (v := .int al) (C := R_Z) (T := T_Z) (N := 26) hx hb ht in_Z hown hK.1 hP 0 rfl rfl 6 (by decide) (ht _ k_fl_Z_158) (fun _ h9 => h9) rfl d_Z_count_146 ?_
          rw [hQ]; exact retMi (w1 := fun u : Int32 => ((wZ cI cL z0 y1 y2 y3 y4 y5 y6 y7 y8 y9 y10 y11 y12 y13 y14 mn oo oa ob ss gg zz md sd da rg pp kp ot u li bl nw wr ru al sp en ke kb at0) ++ fr)) 0 hx hb hr hlocks hP hD hS ⟨(by simp only [zcnF, if_pos c_18, if_neg c_66_0, if_neg c_66_1, if_neg c_66_2, if_neg c_66_3, if_neg c_66_4, if_neg c_66_5, if_neg c_66_6, if_pos c_66_7, ← hF, ctL]), rfl⟩ d_Z_count_149
        by_cases c_66_8 : w = 8
        · refine lv_tableIn (off := 84) (tgt := 150) hx hb d_Z_count_66 (by rw [c_66_8]; decide) (by rw [c_66_8]; decide) (by rw [c_66_8] <;> rfl) (by decide) ?_
          refine lv_aload_n hx hb d_Z_count_150 rfl (lv_at hl 0 rfl) ?_
          refine va_get (ci := 5) (v := .int li) (C := R_Z) (T := T_Z) (N := 26) hx hb ht in_Z hown hK.1 hP 0 rfl rfl 1 (by decide) (ht _ k_fl_Z_53) (fun _ h9 => h9) rfl d_Z_count_151 ?_
          rw [hQ]; exact retMi (w1 := fun u : Int32 => ((wZ cI cL z0 y1 y2 y3 y4 y5 y6 y7 y8 y9 y10 y11 y12 y13 y14 mn oo oa ob ss gg zz md sd da rg pp kp ot u li bl nw wr ru al sp en ke kb at0) ++ fr)) 0 hx hb hr hlocks hP hD hS ⟨(by simp only [zcnF, if_pos c_18, if_neg c_66_0, if_neg c_66_1, if_neg c_66_2, if_neg c_66_3, if_neg c_66_4, if_neg c_66_5, if_neg c_66_6, if_neg c_66_7, if_pos c_66_8, ← hF, ctL]), rfl⟩ d_Z_count_154
        refine lv_tableOut (tgt := 155) hx hb d_Z_count_66 (by have := lv_neT c_66_0 (show (0 : Int32).toInt = 0 by decide); have := lv_neT c_66_1 (show (1 : Int32).toInt = 1 by decide); have := lv_neT c_66_2 (show (2 : Int32).toInt = 2 by decide); have := lv_neT c_66_3 (show (3 : Int32).toInt = 3 by decide); have := lv_neT c_66_4 (show (4 : Int32).toInt = 4 by decide); have := lv_neT c_66_5 (show (5 : Int32).toInt = 5 by decide); have := lv_neT c_66_6 (show (6 : Int32).toInt = 6 by decide); have := lv_neT c_66_7 (show (7 : Int32).toInt = 7 by decide); have := lv_neT c_66_8 (show (8 : Int32).toInt = 8 by decide); omega) (by decide) ?_
        refine lv_iconst (v := (-1)) hx hb d_Z_count_155 (by decide) ?_
        rw [hQ]; exact retMi (w1 := fun u : Int32 => ((wZ cI cL z0 y1 y2 y3 y4 y5 y6 y7 y8 y9 y10 y11 y12 y13 y14 mn oo oa ob ss gg zz md sd da rg pp kp ot u li bl nw wr ru al sp en ke kb at0) ++ fr)) 0 hx hb hr hlocks hP hD hS ⟨(by simp only [zcnF, if_pos c_18, if_neg c_66_0, if_neg c_66_1, if_neg c_66_2, if_neg c_66_3, if_neg c_66_4, if_neg c_66_5, if_neg c_66_6, if_neg c_66_7, if_neg c_66_8, ← hF, ctL]), rfl⟩ d_Z_count_156
      · refine lv_iload_n hx hb d_Z_count_21 rfl (lv_at hl 2 rfl) ?_
        refine lv_aload_n hx hb d_Z_count_22 rfl (lv_at hl 0 rfl) ?_
        refine va_get (ci := 5) (v := .ref y5) (C := R_Z) (T := T_Z) (N := 26) hx hb ht in_Z hown hK.1 hP 0 rfl rfl 11 (by decide) (ht _ k_fl_Z_22) (fun _ h9 => h9) rfl d_Z_count_23 ?_
        refine lv_iload hx hb d_Z_count_26 (lv_at hl 4 rfl) ?_
        refine va_iald hx hb hK.1 hP 5 0 rfl rfl (in_k (in_kb hbl hi c_18)) d_Z_count_28 ?_
        refine lv_iconst (v := 2) hx hb d_Z_count_29 (by decide) ?_
        refine lv_icmp_ne (tgt := 37) hx hb d_Z_count_30 (by decide) (fun c_30 => ?_) (fun c_30 => ?_)
        · refine lv_iconst (v := 0) hx hb d_Z_count_37 (by decide) ?_
          refine lv_iadd hx hb d_Z_count_38 ?_
          refine lv_istore_n (lv' := [(2, .int (h1 + 0)), (0, .ref z0), (1, .int w), (3, .int w1), (4, .int k)]) hx hb d_Z_count_39 rfl hl (by decide) rfl (fun ls hl => ?_)
          refine lv_iload_n hx hb d_Z_count_40 rfl (lv_at hl 3 rfl) ?_
          refine lv_aload_n hx hb d_Z_count_41 rfl (lv_at hl 1 rfl) ?_
          refine va_get (ci := 5) (v := .ref y5) (C := R_Z) (T := T_Z) (N := 26) hx hb ht in_Z hown hK.1 hP 0 rfl rfl 11 (by decide) (ht _ k_fl_Z_22) (fun _ h9 => h9) rfl d_Z_count_42 ?_
          refine lv_iload hx hb d_Z_count_45 (lv_at hl 4 rfl) ?_
          refine va_iald hx hb hK.1 hP 5 0 rfl rfl (in_k (in_kb hbl hi c_18)) d_Z_count_47 ?_
          refine lv_iconst (v := 1) hx hb d_Z_count_48 (by decide) ?_
          refine lv_icmp_ne (tgt := 56) hx hb d_Z_count_49 (by decide) (fun c_49 => ?_) (fun c_49 => ?_)
          · refine lv_iconst (v := 0) hx hb d_Z_count_56 (by decide) ?_
            refine lv_iadd hx hb d_Z_count_57 ?_
            refine lv_istore_n (lv' := [(3, .int (w1 + 0)), (2, .int (h1 + 0)), (0, .ref z0), (1, .int w), (4, .int k)]) hx hb d_Z_count_58 rfl hl (by decide) rfl (fun ls hl => ?_)
            refine lv_iinc (v := k + 1) (lv' := [(4, .int (k + 1)), (3, .int (w1 + 0)), (2, .int (h1 + 0)), (0, .ref z0), (1, .int w)]) hx hb d_Z_count_59 hl (k := 4) rfl rfl (by decide) rfl (fun ls hl => ?_)
            refine lv_goto (tgt := 12) hx hb d_Z_count_62 (by decide) ?_
            exact ih (h1 + 0) (w1 + 0) (k + 1) _ _ ls (by rw [i32_1 (by omega)]; omega) (by rw [i32_1 (by omega)]; have := in_kb hbl hi c_18; omega) (by rw [← hF]; first | (simp only [ctL, if_neg c_18, if_neg c_30, if_neg c_49]; done) | simp [ctL, c_18, c_30, c_49]) hP hD hS (lv_sub hl [3, 4, 2, 1, 0] rfl)
          · refine lv_iconst (v := 1) hx hb d_Z_count_52 (by decide) ?_
            refine lv_goto (tgt := 57) hx hb d_Z_count_53 (by decide) ?_
            refine lv_iadd hx hb d_Z_count_57 ?_
            refine lv_istore_n (lv' := [(3, .int (w1 + 1)), (2, .int (h1 + 0)), (0, .ref z0), (1, .int w), (4, .int k)]) hx hb d_Z_count_58 rfl hl (by decide) rfl (fun ls hl => ?_)
            refine lv_iinc (v := k + 1) (lv' := [(4, .int (k + 1)), (3, .int (w1 + 1)), (2, .int (h1 + 0)), (0, .ref z0), (1, .int w)]) hx hb d_Z_count_59 hl (k := 4) rfl rfl (by decide) rfl (fun ls hl => ?_)
            refine lv_goto (tgt := 12) hx hb d_Z_count_62 (by decide) ?_
            exact ih (h1 + 0) (w1 + 1) (k + 1) _ _ ls (by rw [i32_1 (by omega)]; omega) (by rw [i32_1 (by omega)]; have := in_kb hbl hi c_18; omega) (by rw [← hF]; first | (simp only [ctL, if_neg c_18, if_neg c_30, if_pos c_49]; done) | simp [ctL, c_18, c_30, c_49]) hP hD hS (lv_sub hl [3, 4, 2, 1, 0] rfl)
        · refine lv_iconst (v := 1) hx hb d_Z_count_33 (by decide) ?_
          refine lv_goto (tgt := 38) hx hb d_Z_count_34 (by decide) ?_
          refine lv_iadd hx hb d_Z_count_38 ?_
          refine lv_istore_n (lv' := [(2, .int (h1 + 1)), (0, .ref z0), (1, .int w), (3, .int w1), (4, .int k)]) hx hb d_Z_count_39 rfl hl (by decide) rfl (fun ls hl => ?_)
          refine lv_iload_n hx hb d_Z_count_40 rfl (lv_at hl 3 rfl) ?_
          refine lv_aload_n hx hb d_Z_count_41 rfl (lv_at hl 1 rfl) ?_
          refine va_get (ci := 5) (v := .ref y5) (C := R_Z) (T := T_Z) (N := 26) hx hb ht in_Z hown hK.1 hP 0 rfl rfl 11 (by decide) (ht _ k_fl_Z_22) (fun _ h9 => h9) rfl d_Z_count_42 ?_
          refine lv_iload hx hb d_Z_count_45 (lv_at hl 4 rfl) ?_
          refine va_iald hx hb hK.1 hP 5 0 rfl rfl (in_k (in_kb hbl hi c_18)) d_Z_count_47 ?_
          refine lv_iconst (v := 1) hx hb d_Z_count_48 (by decide) ?_
          refine lv_icmp_ne (tgt := 56) hx hb d_Z_count_49 (by decide) (fun c_49 => ?_) (fun c_49 => ?_)
          · refine lv_iconst (v := 0) hx hb d_Z_count_56 (by decide) ?_
            refine lv_iadd hx hb d_Z_count_57 ?_
            refine lv_istore_n (lv' := [(3, .int (w1 + 0)), (2, .int (h1 + 1)), (0, .ref z0), (1, .int w), (4, .int k)]) hx hb d_Z_count_58 rfl hl (by decide) rfl (fun ls hl => ?_)
            refine lv_iinc (v := k + 1) (lv' := [(4, .int (k + 1)), (3, .int (w1 + 0)), (2, .int (h1 + 1)), (0, .ref z0), (1, .int w)]) hx hb d_Z_count_59 hl (k := 4) rfl rfl (by decide) rfl (fun ls hl => ?_)
            refine lv_goto (tgt := 12) hx hb d_Z_count_62 (by decide) ?_
            exact ih (h1 + 1) (w1 + 0) (k + 1) _ _ ls (by rw [i32_1 (by omega)]; omega) (by rw [i32_1 (by omega)]; have := in_kb hbl hi c_18; omega) (by rw [← hF]; first | (simp only [ctL, if_neg c_18, if_pos c_30, if_neg c_49]; done) | simp [ctL, c_18, c_30, c_49]) hP hD hS (lv_sub hl [3, 4, 2, 1, 0] rfl)
          · refine lv_iconst (v := 1) hx hb d_Z_count_52 (by decide) ?_
            refine lv_goto (tgt := 57) hx hb d_Z_count_53 (by decide) ?_
            refine lv_iadd hx hb d_Z_count_57 ?_
            refine lv_istore_n (lv' := [(3, .int (w1 + 1)), (2, .int (h1 + 1)), (0, .ref z0), (1, .int w), (4, .int k)]) hx hb d_Z_count_58 rfl hl (by decide) rfl (fun ls hl => ?_)
            refine lv_iinc (v := k + 1) (lv' := [(4, .int (k + 1)), (3, .int (w1 + 1)), (2, .int (h1 + 1)), (0, .ref z0), (1, .int w)]) hx hb d_Z_count_59 hl (k := 4) rfl rfl (by decide) rfl (fun ls hl => ?_)
            refine lv_goto (tgt := 12) hx hb d_Z_count_62 (by decide) ?_
            exact ih (h1 + 1) (w1 + 1) (k + 1) _ _ ls (by rw [i32_1 (by omega)]; omega) (by rw [i32_1 (by omega)]; have := in_kb hbl hi c_18; omega) (by rw [← hF]; first | (simp only [ctL, if_neg c_18, if_pos c_30, if_pos c_49]; done) | simp [ctL, c_18, c_30, c_49]) hP hD hS (lv_sub hl [3, 4, 2, 1, 0] rfl)
  exact lp 25 0 0 0 _ _ ls (by decide) (by decide) rfl hP hD hS (lv_sub hl [3, 4, 2, 1, 0] rfl)

abbrev w_Z_begin : List Cond := .code y_Z_begin b_Z_begin 5 none :: BIG
set_option maxHeartbeats 4000000 in
set_option maxRecDepth 100000 in
theorem c_Z_begin (l : Launch) (D : va_G) (cI cL cO : ClassId) (z0 : Nat) (y1 : Nat) (y2 : Nat) (y3 : Nat) (y4 : Nat) (y5 : Nat) (y6 : Nat) (y7 : Nat) (y8 : Nat) (y9 : Nat) (y10 : Nat) (y11 : Nat) (y12 : Nat) (y13 : Nat) (y14 : Nat) (mn : Fn) (oo : Fn) (oa : Fn) (ob : Fn) (ss : Fn) (gg : Fn) (zz : Fn) (md : Fn) (sd : Fn) (da : Fn) (rg : FL) (pp : FL) (kp : FL) (ot : FL) (th : Int32) (li : Int32) (bl : Int32) (nw : Int32) (wr : Int32) (ru : Int32) (al : Int32) (sp : Int32) (en : Int32) (ke : Int32) (kb : Int32) (at0 : Int32) (fr : va_W) (x : Int64) (y : Int64) : CMv l y_Z_begin w_Z_begin ({ frames := 0, cells := 0, slots := 0, locals := 0 }) D cI cL cO [.ref z0, .long x, .long y] ((wZ cI cL z0 y1 y2 y3 y4 y5 y6 y7 y8 y9 y10 y11 y12 y13 y14 mn oo oa ob ss gg zz md sd da rg pp kp ot th li bl nw wr ru al sp en ke kb at0) ++ fr) (fun u : FL × Int32 × Int32 => u = (begR x y, 0, 0)) (fun u : FL × Int32 × Int32 => ((wZ cI cL z0 y1 y2 y3 y4 y5 y6 y7 y8 y9 y10 y11 y12 y13 y14 mn oo oa ob ss gg zz md sd da u.1 pp kp ot th li bl nw wr ru al u.2.1 u.2.2 ke kb at0) ++ fr)) 0 0 := by
  refine ofMv (cc := b_Z_begin) (maxL := 5) (ret := none) (by decide) rfl (Nat.le_of_ble_eq_true rfl) ?_
  intro p e s m below meth c A ls H Q hQ hx hb hr hlocks hin hts hown hml hP hK hD hS hA hl
  have hl : lv_has ls 5 [(0, .ref z0), (1, .long x), (3, .long y)] := hl
  have hown : s.vm.findClass R_Z = some m.cls := hown
  have ht : ∀ w ∈ BIG, w.before _ s = true := fun w h => hts w (List.mem_cons_of_mem _ h)
  refine lv_aload_n hx hb d_Z_begin_0 rfl (lv_at hl 0 rfl) ?_
  refine va_get (ci := 5) (v := .ref y11) (C := R_Z) (T := T_Z) (N := 26) hx hb ht in_Z hown hK.1 hP 0 rfl rfl 17 (by decide) (ht _ k_fl_Z_40) (fun _ h9 => h9) rfl d_Z_begin_1 ?_
  refine lv_iconst (v := 0) hx hb d_Z_begin_4 (by decide) ?_
  refine lv_lload_n hx hb d_Z_begin_5 rfl (lv_at hl 1 rfl) ?_
  refine va_last hx hb hK.1 hP hD hS 11 1 rfl rfl (by unfold vp_in; decide) d_Z_begin_6 (fun H locs hP hD hS => ?_)
  have hP : va_P D vwCl ((wZ cI cL z0 y1 y2 y3 y4 y5 y6 y7 y8 y9 y10 y11 y12 y13 y14 mn oo oa ob ss gg zz md sd da (vp_updL rg (0 : Int32).toNatClampNeg x) pp kp ot th li bl nw wr ru al sp en ke kb at0) ++ fr) H := hP
  have hD : va_D A ((wZ cI cL z0 y1 y2 y3 y4 y5 y6 y7 y8 y9 y10 y11 y12 y13 y14 mn oo oa ob ss gg zz md sd da (vp_updL rg (0 : Int32).toNatClampNeg x) pp kp ot th li bl nw wr ru al sp en ke kb at0) ++ fr) := hD
  refine lv_aload_n hx hb d_Z_begin_7 rfl (lv_at hl 0 rfl) ?_
  refine va_get (ci := 5) (v := .ref y11) (C := R_Z) (T := T_Z) (N := 26) hx hb ht in_Z hown hK.1 hP 0 rfl rfl 17 (by decide) (ht _ k_fl_Z_40) (fun _ h9 => h9) rfl d_Z_begin_8 ?_
  refine lv_iconst (v := 1) hx hb d_Z_begin_11 (by decide) ?_
  refine lv_lload_n hx hb d_Z_begin_12 rfl (lv_at hl 2 rfl) ?_
  refine va_last hx hb hK.1 hP hD hS 11 1 rfl rfl (by unfold vp_in; decide) d_Z_begin_13 (fun H locs hP hD hS => ?_)
  have hP : va_P D vwCl ((wZ cI cL z0 y1 y2 y3 y4 y5 y6 y7 y8 y9 y10 y11 y12 y13 y14 mn oo oa ob ss gg zz md sd da (vp_updL (vp_updL rg (0 : Int32).toNatClampNeg x) (1 : Int32).toNatClampNeg y) pp kp ot th li bl nw wr ru al sp en ke kb at0) ++ fr) H := hP
  have hD : va_D A ((wZ cI cL z0 y1 y2 y3 y4 y5 y6 y7 y8 y9 y10 y11 y12 y13 y14 mn oo oa ob ss gg zz md sd da (vp_updL (vp_updL rg (0 : Int32).toNatClampNeg x) (1 : Int32).toNatClampNeg y) pp kp ot th li bl nw wr ru al sp en ke kb at0) ++ fr) := hD
  refine lv_aload_n hx hb d_Z_begin_14 rfl (lv_at hl 0 rfl) ?_
  refine va_get (ci := 5) (v := .ref y11) (C := R_Z) (T := T_Z) (N := 26) hx hb ht in_Z hown hK.1 hP 0 rfl rfl 17 (by decide) (ht _ k_fl_Z_40) (fun _ h9 => h9) rfl d_Z_begin_15 ?_
  refine lv_iconst (v := 2) hx hb d_Z_begin_18 (by decide) ?_
  refine lv_lconst (v := 0) hx hb d_Z_begin_19 (by decide) ?_
  refine va_last hx hb hK.1 hP hD hS 11 1 rfl rfl (by unfold vp_in; decide) d_Z_begin_20 (fun H locs hP hD hS => ?_)
  have hP : va_P D vwCl ((wZ cI cL z0 y1 y2 y3 y4 y5 y6 y7 y8 y9 y10 y11 y12 y13 y14 mn oo oa ob ss gg zz md sd da (vp_updL (vp_updL (vp_updL rg (0 : Int32).toNatClampNeg x) (1 : Int32).toNatClampNeg y) (2 : Int32).toNatClampNeg 0) pp kp ot th li bl nw wr ru al sp en ke kb at0) ++ fr) H := hP
  have hD : va_D A ((wZ cI cL z0 y1 y2 y3 y4 y5 y6 y7 y8 y9 y10 y11 y12 y13 y14 mn oo oa ob ss gg zz md sd da (vp_updL (vp_updL (vp_updL rg (0 : Int32).toNatClampNeg x) (1 : Int32).toNatClampNeg y) (2 : Int32).toNatClampNeg 0) pp kp ot th li bl nw wr ru al sp en ke kb at0) ++ fr) := hD
  refine lv_aload_n hx hb d_Z_begin_21 rfl (lv_at hl 0 rfl) ?_
  refine va_get (ci := 5) (v := .ref y11) (C := R_Z) (T := T_Z) (N := 26) hx hb ht in_Z hown hK.1 hP 0 rfl rfl 17 (by decide) (ht _ k_fl_Z_40) (fun _ h9 => h9) rfl d_Z_begin_22 ?_
  refine lv_iconst (v := 3) hx hb d_Z_begin_25 (by decide) ?_
  refine lv_lconst (v := 0) hx hb d_Z_begin_26 (by decide) ?_
  refine va_last hx hb hK.1 hP hD hS 11 1 rfl rfl (by unfold vp_in; decide) d_Z_begin_27 (fun H locs hP hD hS => ?_)
  have hP : va_P D vwCl ((wZ cI cL z0 y1 y2 y3 y4 y5 y6 y7 y8 y9 y10 y11 y12 y13 y14 mn oo oa ob ss gg zz md sd da (vp_updL (vp_updL (vp_updL (vp_updL rg (0 : Int32).toNatClampNeg x) (1 : Int32).toNatClampNeg y) (2 : Int32).toNatClampNeg 0) (3 : Int32).toNatClampNeg 0) pp kp ot th li bl nw wr ru al sp en ke kb at0) ++ fr) H := hP
  have hD : va_D A ((wZ cI cL z0 y1 y2 y3 y4 y5 y6 y7 y8 y9 y10 y11 y12 y13 y14 mn oo oa ob ss gg zz md sd da (vp_updL (vp_updL (vp_updL (vp_updL rg (0 : Int32).toNatClampNeg x) (1 : Int32).toNatClampNeg y) (2 : Int32).toNatClampNeg 0) (3 : Int32).toNatClampNeg 0) pp kp ot th li bl nw wr ru al sp en ke kb at0) ++ fr) := hD
  refine lv_aload_n hx hb d_Z_begin_28 rfl (lv_at hl 0 rfl) ?_
  refine lv_iconst (v := 0) hx hb d_Z_begin_29 (by decide) ?_
  refine va_put (ci := 5) (v := .int 0) (ty := .int) (C := R_Z) (T := T_Z) (N := 26) hx hb ht in_Z t_Z t_Z_ok n_Z hown hK.1 hP hD hS 0 rfl rfl 19 (by decide) (ht _ k_fl_Z_124) (fun _ h9 => h9) rfl (by decide +kernel) rfl rfl (Nat.le_of_ble_eq_true rfl) d_Z_begin_30 (fun H locs hP hD hS => ?_)
  have hP : va_P D vwCl ((wZ cI cL z0 y1 y2 y3 y4 y5 y6 y7 y8 y9 y10 y11 y12 y13 y14 mn oo oa ob ss gg zz md sd da (vp_updL (vp_updL (vp_updL (vp_updL rg (0 : Int32).toNatClampNeg x) (1 : Int32).toNatClampNeg y) (2 : Int32).toNatClampNeg 0) (3 : Int32).toNatClampNeg 0) pp kp ot th li bl nw wr ru al 0 en ke kb at0) ++ fr) H := hP
  have hD : va_D A ((wZ cI cL z0 y1 y2 y3 y4 y5 y6 y7 y8 y9 y10 y11 y12 y13 y14 mn oo oa ob ss gg zz md sd da (vp_updL (vp_updL (vp_updL (vp_updL rg (0 : Int32).toNatClampNeg x) (1 : Int32).toNatClampNeg y) (2 : Int32).toNatClampNeg 0) (3 : Int32).toNatClampNeg 0) pp kp ot th li bl nw wr ru al 0 en ke kb at0) ++ fr) := hD
  refine lv_aload_n hx hb d_Z_begin_33 rfl (lv_at hl 0 rfl) ?_
  refine lv_iconst (v := 0) hx hb d_Z_begin_34 (by decide) ?_
  refine va_put (ci := 5) (v := .int 0) (ty := .int) (C := R_Z) (T := T_Z) (N := 26) hx hb ht in_Z t_Z t_Z_ok n_Z hown hK.1 hP hD hS 0 rfl rfl 20 (by decide) (ht _ k_fl_Z_127) (fun _ h9 => h9) rfl (by decide +kernel) rfl rfl (Nat.le_of_ble_eq_true rfl) d_Z_begin_35 (fun H locs hP hD hS => ?_)
  have hP : va_P D vwCl ((wZ cI cL z0 y1 y2 y3 y4 y5 y6 y7 y8 y9 y10 y11 y12 y13 y14 mn oo oa ob ss gg zz md sd da (vp_updL (vp_updL (vp_updL (vp_updL rg (0 : Int32).toNatClampNeg x) (1 : Int32).toNatClampNeg y) (2 : Int32).toNatClampNeg 0) (3 : Int32).toNatClampNeg 0) pp kp ot th li bl nw wr ru al 0 0 ke kb at0) ++ fr) H := hP
  have hD : va_D A ((wZ cI cL z0 y1 y2 y3 y4 y5 y6 y7 y8 y9 y10 y11 y12 y13 y14 mn oo oa ob ss gg zz md sd da (vp_updL (vp_updL (vp_updL (vp_updL rg (0 : Int32).toNatClampNeg x) (1 : Int32).toNatClampNeg y) (2 : Int32).toNatClampNeg 0) (3 : Int32).toNatClampNeg 0) pp kp ot th li bl nw wr ru al 0 0 ke kb at0) ++ fr) := hD
  have hP := P_rep 11 rfl (beg4 rg x y) hD hP
  have hP : va_P D vwCl ((wZ cI cL z0 y1 y2 y3 y4 y5 y6 y7 y8 y9 y10 y11 y12 y13 y14 mn oo oa ob ss gg zz md sd da (begR x y) pp kp ot th li bl nw wr ru al 0 0 ke kb at0) ++ fr) H := hP
  have hD : va_D A ((wZ cI cL z0 y1 y2 y3 y4 y5 y6 y7 y8 y9 y10 y11 y12 y13 y14 mn oo oa ob ss gg zz md sd da (begR x y) pp kp ot th li bl nw wr ru al 0 0 ke kb at0) ++ fr) := va_D.set (p := 11) hD rfl
  rw [hQ]; exact retMv (w1 := fun u : FL × Int32 × Int32 => ((wZ cI cL z0 y1 y2 y3 y4 y5 y6 y7 y8 y9 y10 y11 y12 y13 y14 mn oo oa ob ss gg zz md sd da u.1 pp kp ot th li bl nw wr ru al u.2.1 u.2.2 ke kb at0) ++ fr)) (begR x y, 0, 0) hx hb hr hlocks hP hD hS rfl d_Z_begin_38
