theorem wi_01 (v lo hi : Int32) : wiF v lo hi = 0 ∨ wiF v lo hi = 1 := by
  unfold wiF
  split
  · exact Or.inl rfl
  · split
    · exact Or.inl rfl
    · exact Or.inr rfl
theorem wi_p {v lo hi : Int32} (h : wiF v lo hi = 0) : 0 = wiF v lo hi := h.symm
theorem wi_n {v lo hi : Int32} (h : ¬ wiF v lo hi = 0) : 1 = wiF v lo hi := ((wi_01 v lo hi).resolve_left h).symm
theorem wi_r {v lo hi : Int32} (h : ¬ wiF v lo hi = 0) : lo.toInt ≤ v.toInt ∧ v.toInt ≤ hi.toInt := by
  unfold wiF at h
  split at h
  · exact absurd rfl h
  · split at h
    · exact absurd rfl h
    · rename_i h1 h2
      rw [Int32.lt_iff_toInt_lt] at h1 h2
      omega
theorem wi_k {k bl : Int32} (hb : 0 ≤ bl.toInt ∧ bl.toInt ≤ 24) (h : ¬ wiF k 0 (bl - 1) = 0) : 0 ≤ k.toInt ∧ k.toInt < 24 ∧ k.toInt < bl.toInt := by
  have h1 := wi_r h
  rw [i32_m (by omega), Int32.toInt_zero] at h1
  omega
theorem in_k {P : Prop} {k : Int32} (h : 0 ≤ k.toInt ∧ k.toInt < 24 ∧ P) : vp_in k 24 := vp_in_iff.mpr ⟨h.1, h.2.1⟩

abbrev w_Z_thrown : List Cond := .code y_Z_thrown b_Z_thrown 1 (some .int) :: BIG
set_option maxHeartbeats 4000000 in
set_option maxRecDepth 100000 in
theorem c_Z_thrown (l : Launch) (D : va_G) (cI cL cO : ClassId) (z0 : Nat) (y1 : Nat) (y2 : Nat) (y3 : Nat) (y4 : Nat) (y5 : Nat) (y6 : Nat) (y7 : Nat) (y8 : Nat) (y9 : Nat) (y10 : Nat) (y11 : Nat) (y12 : Nat) (y13 : Nat) (y14 : Nat) (mn : Fn) (oo : Fn) (oa : Fn) (ob : Fn) (ss : Fn) (gg : Fn) (zz : Fn) (md : Fn) (sd : Fn) (da : Fn) (rg : FL) (pp : FL) (kp : FL) (ot : FL) (th : Int32) (li : Int32) (bl : Int32) (nw : Int32) (wr : Int32) (ru : Int32) (al : Int32) (sp : Int32) (en : Int32) (ke : Int32) (kb : Int32) (at0 : Int32) : CRi l y_Z_thrown w_Z_thrown ({ frames := 0, cells := 0, slots := 0, locals := 0 }) D cI cL cO [.ref z0] (wZ cI cL z0 y1 y2 y3 y4 y5 y6 y7 y8 y9 y10 y11 y12 y13 y14 mn oo oa ob ss gg zz md sd da rg pp kp ot th li bl nw wr ru al sp en ke kb at0) th := by
  refine ofR (cc := b_Z_thrown) (maxL := 1) (ret := (some .int)) (by decide) rfl (Nat.le_of_ble_eq_true rfl) ?_
  intro p e s m below meth c ls Q hQ hx hb hr hlocks hts hown hml hP hK hl
  have hl : lv_has ls 1 [(0, .ref z0)] := hl
  have hown : s.vm.findClass R_Z = some m.cls := hown
  have ht : ∀ w ∈ BIG, w.before _ s = true := fun w h => hts w (List.mem_cons_of_mem _ h)
  refine lv_aload_n hx hb d_Z_thrown_0 rfl (lv_at hl 0 rfl) ?_
  refine va_get (ci := 5) (v := .int th) (C := R_Z) (T := T_Z) (N := 26) hx hb ht in_Z hown hK.1 hP 0 rfl rfl 0 (by decide) (ht _ k_fl_Z_57) (fun _ h9 => h9) rfl d_Z_thrown_1 ?_
  rw [hQ]; exact retRi hx hb hr hlocks rfl d_Z_thrown_4

abbrev w_Z_fail : List Cond := .code y_Z_fail b_Z_fail 2 (some .int) :: BIG
set_option maxHeartbeats 4000000 in
set_option maxRecDepth 100000 in
theorem c_Z_fail (l : Launch) (D : va_G) (cI cL cO : ClassId) (z0 : Nat) (y1 : Nat) (y2 : Nat) (y3 : Nat) (y4 : Nat) (y5 : Nat) (y6 : Nat) (y7 : Nat) (y8 : Nat) (y9 : Nat) (y10 : Nat) (y11 : Nat) (y12 : Nat) (y13 : Nat) (y14 : Nat) (mn : Fn) (oo : Fn) (oa : Fn) (ob : Fn) (ss : Fn) (gg : Fn) (zz : Fn) (md : Fn) (sd : Fn) (da : Fn) (rg : FL) (pp : FL) (kp : FL) (ot : FL) (th : Int32) (li : Int32) (bl : Int32) (nw : Int32) (wr : Int32) (ru : Int32) (al : Int32) (sp : Int32) (en : Int32) (ke : Int32) (kb : Int32) (at0 : Int32) (fr : va_W) (cd : Int32) : CMi l y_Z_fail w_Z_fail ({ frames := 0, cells := 0, slots := 0, locals := 0 }) D cI cL cO [.ref z0, .int cd] ((wZ cI cL z0 y1 y2 y3 y4 y5 y6 y7 y8 y9 y10 y11 y12 y13 y14 mn oo oa ob ss gg zz md sd da rg pp kp ot th li bl nw wr ru al sp en ke kb at0) ++ fr) (fun (r : Int32) (u : Int32) => r = 0 ∧ u = cd) (fun u : Int32 => ((wZ cI cL z0 y1 y2 y3 y4 y5 y6 y7 y8 y9 y10 y11 y12 y13 y14 mn oo oa ob ss gg zz md sd da rg pp kp ot u li bl nw wr ru al sp en ke kb at0) ++ fr)) 0 0 := by
  refine ofMi (cc := b_Z_fail) (maxL := 2) (ret := (some .int)) (by decide) rfl (Nat.le_of_ble_eq_true rfl) ?_
  intro p e s m below meth c A ls H Q hQ hx hb hr hlocks hin hts hown hml hP hK hD hS hA hl
  have hl : lv_has ls 2 [(0, .ref z0), (1, .int cd)] := hl
  have hown : s.vm.findClass R_Z = some m.cls := hown
  have ht : ∀ w ∈ BIG, w.before _ s = true := fun w h => hts w (List.mem_cons_of_mem _ h)
  refine lv_aload_n hx hb d_Z_fail_0 rfl (lv_at hl 0 rfl) ?_
  refine lv_iload_n hx hb d_Z_fail_1 rfl (lv_at hl 1 rfl) ?_
  refine va_put (ci := 5) (v := .int cd) (ty := .int) (C := R_Z) (T := T_Z) (N := 26) hx hb ht in_Z t_Z t_Z_ok n_Z hown hK.1 hP hD hS 0 rfl rfl 0 (by decide) (ht _ k_fl_Z_57) (fun _ h9 => h9) rfl (by decide +kernel) rfl rfl (Nat.le_of_ble_eq_true rfl) d_Z_fail_2 (fun H locs hP hD hS => ?_)
  have hP : va_P D vwCl ((wZ cI cL z0 y1 y2 y3 y4 y5 y6 y7 y8 y9 y10 y11 y12 y13 y14 mn oo oa ob ss gg zz md sd da rg pp kp ot cd li bl nw wr ru al sp en ke kb at0) ++ fr) H := hP
  have hD : va_D A ((wZ cI cL z0 y1 y2 y3 y4 y5 y6 y7 y8 y9 y10 y11 y12 y13 y14 mn oo oa ob ss gg zz md sd da rg pp kp ot cd li bl nw wr ru al sp en ke kb at0) ++ fr) := hD
  refine lv_iconst (v := 0) hx hb d_Z_fail_5 (by decide) ?_
  rw [hQ]; exact retMi (w1 := fun u : Int32 => ((wZ cI cL z0 y1 y2 y3 y4 y5 y6 y7 y8 y9 y10 y11 y12 y13 y14 mn oo oa ob ss gg zz md sd da rg pp kp ot u li bl nw wr ru al sp en ke kb at0) ++ fr)) cd hx hb hr hlocks hP hD hS ⟨rfl, rfl⟩ d_Z_fail_6

abbrev w_Z_isBlock : List Cond := .code y_Z_isBlock b_Z_isBlock 2 (some .boolean) :: BIG
set_option maxHeartbeats 4000000 in
set_option maxRecDepth 100000 in
theorem c_Z_isBlock (l : Launch) (D : va_G) (cI cL cO : ClassId) (z0 : Nat) (y1 : Nat) (y2 : Nat) (y3 : Nat) (y4 : Nat) (y5 : Nat) (y6 : Nat) (y7 : Nat) (y8 : Nat) (y9 : Nat) (y10 : Nat) (y11 : Nat) (y12 : Nat) (y13 : Nat) (y14 : Nat) (mn : Fn) (oo : Fn) (oa : Fn) (ob : Fn) (ss : Fn) (gg : Fn) (zz : Fn) (md : Fn) (sd : Fn) (da : Fn) (rg : FL) (pp : FL) (kp : FL) (ot : FL) (th : Int32) (li : Int32) (bl : Int32) (nw : Int32) (wr : Int32) (ru : Int32) (al : Int32) (sp : Int32) (en : Int32) (ke : Int32) (kb : Int32) (at0 : Int32) (fr : va_W) (k : Int32) : CMi l y_Z_isBlock w_Z_isBlock ({ frames := 1, cells := 0, slots := 0, locals := 22 }) D cI cL cO [.ref z0, .int k] ((wZ cI cL z0 y1 y2 y3 y4 y5 y6 y7 y8 y9 y10 y11 y12 y13 y14 mn oo oa ob ss gg zz md sd da rg pp kp ot th li bl nw wr ru al sp en ke kb at0) ++ fr) (fun (r : Int32) (u : Int32) => r = wiF k 0 (bl - 1) ∧ u = if wiF k 0 (bl - 1) = 0 then 1 else 0) (fun u : Int32 => ((wZ cI cL z0 y1 y2 y3 y4 y5 y6 y7 y8 y9 y10 y11 y12 y13 y14 mn oo oa ob ss gg zz md sd da rg pp kp ot u li bl nw wr ru al sp en ke kb at0) ++ fr)) 0 0 := by
  refine ofMi (cc := b_Z_isBlock) (maxL := 2) (ret := (some .boolean)) (by decide) rfl (Nat.le_of_ble_eq_true rfl) ?_
  intro p e s m below meth c A ls H Q hQ hx hb hr hlocks hin hts hown hml hP hK hD hS hA hl
  have hl : lv_has ls 2 [(0, .ref z0), (1, .int k)] := hl
  have hown : s.vm.findClass R_Z = some m.cls := hown
  have ht : ∀ w ∈ BIG, w.before _ s = true := fun w h => hts w (List.mem_cons_of_mem _ h)
  refine lv_aload_n hx hb d_Z_isBlock_0 rfl (lv_at hl 0 rfl) ?_
  refine lv_iload_n hx hb d_Z_isBlock_1 rfl (lv_at hl 1 rfl) ?_
  refine lv_iconst (v := 0) hx hb d_Z_isBlock_2 (by decide) ?_
  refine lv_aload_n hx hb d_Z_isBlock_3 rfl (lv_at hl 0 rfl) ?_
  refine va_get (ci := 5) (v := .int bl) (C := R_Z) (T := T_Z) (N := 26) hx hb ht in_Z hown hK.1 hP 0 rfl rfl 2 (by decide) (ht _ k_fl_Z_60) (fun _ h9 => h9) rfl d_Z_isBlock_4 ?_
  refine lv_iconst (v := 1) hx hb d_Z_isBlock_7 (by decide) ?_
  refine lv_isub hx hb d_Z_isBlock_8 ?_
  refine goRi (va_runS (As := [.int k, .int 0, .int (bl - 1)]) (rest := [.ref z0]) ⟨hx, hb, hml, hown, hts⟩ (c_Z_within l D cI cL cO k 0 (bl - 1)) (cwS 3 hts (gBIG (m3 k_ml_Z_63 k_st_Z_within k_ini_Z) k_co_Z_within) rfl rfl rfl (by decide +kernel) ⟨Nat.le_of_ble_eq_true rfl, Nat.le_of_ble_eq_true rfl⟩) ⟨PR.bl, PR.pre P_nil hK⟩ rfl rfl hl.1 rfl (lv_room (Nat.le_of_ble_eq_true rfl)) d_Z_isBlock_9 ⟨Nat.le_of_ble_eq_true rfl, Nat.le_of_ble_eq_true rfl⟩) ?_
  refine lv_if_eq (tgt := 19) hx hb d_Z_isBlock_12 (by decide) (fun c_12 => ?_) (fun c_12 => ?_)
  · refine lv_iconst (v := 1) hx hb d_Z_isBlock_19 (by decide) ?_
    refine va_put (ci := 5) (v := .int 1) (ty := .int) (C := R_Z) (T := T_Z) (N := 26) hx hb ht in_Z t_Z t_Z_ok n_Z hown hK.1 hP hD hS 0 rfl rfl 0 (by decide) (ht _ k_fl_Z_57) (fun _ h9 => h9) rfl (by decide +kernel) rfl rfl (Nat.le_of_ble_eq_true rfl) d_Z_isBlock_20 (fun H locs hP hD hS => ?_)
    have hP : va_P D vwCl ((wZ cI cL z0 y1 y2 y3 y4 y5 y6 y7 y8 y9 y10 y11 y12 y13 y14 mn oo oa ob ss gg zz md sd da rg pp kp ot 1 li bl nw wr ru al sp en ke kb at0) ++ fr) H := hP
    have hD : va_D A ((wZ cI cL z0 y1 y2 y3 y4 y5 y6 y7 y8 y9 y10 y11 y12 y13 y14 mn oo oa ob ss gg zz md sd da rg pp kp ot 1 li bl nw wr ru al sp en ke kb at0) ++ fr) := hD
    refine lv_aload_n hx hb d_Z_isBlock_23 rfl (lv_at hl 0 rfl) ?_
    refine va_get (ci := 5) (v := .int 1) (C := R_Z) (T := T_Z) (N := 26) hx hb ht in_Z hown hK.1 hP 0 rfl rfl 0 (by decide) (ht _ k_fl_Z_57) (fun _ h9 => h9) rfl d_Z_isBlock_24 ?_
    refine lv_if_ne (tgt := 34) hx hb d_Z_isBlock_27 (by decide) (fun c_27 => ?_) (fun c_27 => ?_)
    · refine lv_iconst (v := 0) hx hb d_Z_isBlock_34 (by decide) ?_
      rw [hQ]; exact retMz (w1 := fun u : Int32 => ((wZ cI cL z0 y1 y2 y3 y4 y5 y6 y7 y8 y9 y10 y11 y12 y13 y14 mn oo oa ob ss gg zz md sd da rg pp kp ot u li bl nw wr ru al sp en ke kb at0) ++ fr)) 1 hx hb hr hlocks rfl hP hD hS ⟨wi_p c_12, (by rw [if_pos c_12])⟩ d_Z_isBlock_35
    · exact absurd c_27 (by decide)
  · refine lv_iconst (v := 0) hx hb d_Z_isBlock_15 (by decide) ?_
    refine lv_goto (tgt := 20) hx hb d_Z_isBlock_16 (by decide) ?_
    refine va_put (ci := 5) (v := .int 0) (ty := .int) (C := R_Z) (T := T_Z) (N := 26) hx hb ht in_Z t_Z t_Z_ok n_Z hown hK.1 hP hD hS 0 rfl rfl 0 (by decide) (ht _ k_fl_Z_57) (fun _ h9 => h9) rfl (by decide +kernel) rfl rfl (Nat.le_of_ble_eq_true rfl) d_Z_isBlock_20 (fun H locs hP hD hS => ?_)
    have hP : va_P D vwCl ((wZ cI cL z0 y1 y2 y3 y4 y5 y6 y7 y8 y9 y10 y11 y12 y13 y14 mn oo oa ob ss gg zz md sd da rg pp kp ot 0 li bl nw wr ru al sp en ke kb at0) ++ fr) H := hP
    have hD : va_D A ((wZ cI cL z0 y1 y2 y3 y4 y5 y6 y7 y8 y9 y10 y11 y12 y13 y14 mn oo oa ob ss gg zz md sd da rg pp kp ot 0 li bl nw wr ru al sp en ke kb at0) ++ fr) := hD
    refine lv_aload_n hx hb d_Z_isBlock_23 rfl (lv_at hl 0 rfl) ?_
    refine va_get (ci := 5) (v := .int 0) (C := R_Z) (T := T_Z) (N := 26) hx hb ht in_Z hown hK.1 hP 0 rfl rfl 0 (by decide) (ht _ k_fl_Z_57) (fun _ h9 => h9) rfl d_Z_isBlock_24 ?_
    refine lv_if_ne (tgt := 34) hx hb d_Z_isBlock_27 (by decide) (fun c_27 => ?_) (fun c_27 => ?_)
    · exact absurd c_27 (by decide)
    · refine lv_iconst (v := 1) hx hb d_Z_isBlock_30 (by decide) ?_
      refine lv_goto (tgt := 35) hx hb d_Z_isBlock_31 (by decide) ?_
      rw [hQ]; exact retMz (w1 := fun u : Int32 => ((wZ cI cL z0 y1 y2 y3 y4 y5 y6 y7 y8 y9 y10 y11 y12 y13 y14 mn oo oa ob ss gg zz md sd da rg pp kp ot u li bl nw wr ru al sp en ke kb at0) ++ fr)) 0 hx hb hr hlocks rfl hP hD hS ⟨wi_n c_12, (by rw [if_neg c_12])⟩ d_Z_isBlock_35

abbrev w_Z_block : List Cond := .code y_Z_block b_Z_block 1 (some .int) :: BIG
set_option maxHeartbeats 4000000 in
set_option maxRecDepth 100000 in
theorem c_Z_block (l : Launch) (D : va_G) (cI cL cO : ClassId) (z0 : Nat) (y1 : Nat) (y2 : Nat) (y3 : Nat) (y4 : Nat) (y5 : Nat) (y6 : Nat) (y7 : Nat) (y8 : Nat) (y9 : Nat) (y10 : Nat) (y11 : Nat) (y12 : Nat) (y13 : Nat) (y14 : Nat) (mn : Fn) (oo : Fn) (oa : Fn) (ob : Fn) (ss : Fn) (gg : Fn) (zz : Fn) (md : Fn) (sd : Fn) (da : Fn) (rg : FL) (pp : FL) (kp : FL) (ot : FL) (th : Int32) (li : Int32) (bl : Int32) (nw : Int32) (wr : Int32) (ru : Int32) (al : Int32) (sp : Int32) (en : Int32) (ke : Int32) (kb : Int32) (at0 : Int32) (fr : va_W) : CMi l y_Z_block w_Z_block ({ frames := 1, cells := 0, slots := 0, locals := 21 }) D cI cL cO [.ref z0] ((wZ cI cL z0 y1 y2 y3 y4 y5 y6 y7 y8 y9 y10 y11 y12 y13 y14 mn oo oa ob ss gg zz md sd da rg pp kp ot th li bl nw wr ru al sp en ke kb at0) ++ fr) (fun (r : Int32) (u : Int32 × Int32) => (r, u.1, u.2) = (if bl = 24 then (0, 1, bl) else (bl + 1 - 1, 0, bl + 1))) (fun u : Int32 × Int32 => ((wZ cI cL z0 y1 y2 y3 y4 y5 y6 y7 y8 y9 y10 y11 y12 y13 y14 mn oo oa ob ss gg zz md sd da rg pp kp ot u.1 li u.2 nw wr ru al sp en ke kb at0) ++ fr)) 0 0 := by
  refine ofMi (cc := b_Z_block) (maxL := 1) (ret := (some .int)) (by decide) rfl (Nat.le_of_ble_eq_true rfl) ?_
  intro p e s m below meth c A ls H Q hQ hx hb hr hlocks hin hts hown hml hP hK hD hS hA hl
  have hl : lv_has ls 1 [(0, .ref z0)] := hl
  have hown : s.vm.findClass R_Z = some m.cls := hown
  have ht : ∀ w ∈ BIG, w.before _ s = true := fun w h => hts w (List.mem_cons_of_mem _ h)
  refine lv_aload_n hx hb d_Z_block_0 rfl (lv_at hl 0 rfl) ?_
  refine lv_iconst (v := 0) hx hb d_Z_block_1 (by decide) ?_
  refine va_put (ci := 5) (v := .int 0) (ty := .int) (C := R_Z) (T := T_Z) (N := 26) hx hb ht in_Z t_Z t_Z_ok n_Z hown hK.1 hP hD hS 0 rfl rfl 0 (by decide) (ht _ k_fl_Z_57) (fun _ h9 => h9) rfl (by decide +kernel) rfl rfl (Nat.le_of_ble_eq_true rfl) d_Z_block_2 (fun H locs hP hD hS => ?_)
  have hP : va_P D vwCl ((wZ cI cL z0 y1 y2 y3 y4 y5 y6 y7 y8 y9 y10 y11 y12 y13 y14 mn oo oa ob ss gg zz md sd da rg pp kp ot 0 li bl nw wr ru al sp en ke kb at0) ++ fr) H := hP
  have hD : va_D A ((wZ cI cL z0 y1 y2 y3 y4 y5 y6 y7 y8 y9 y10 y11 y12 y13 y14 mn oo oa ob ss gg zz md sd da rg pp kp ot 0 li bl nw wr ru al sp en ke kb at0) ++ fr) := hD
  refine lv_aload_n hx hb d_Z_block_5 rfl (lv_at hl 0 rfl) ?_
  refine va_get (ci := 5) (v := .int bl) (C := R_Z) (T := T_Z) (N := 26) hx hb ht in_Z hown hK.1 hP 0 rfl rfl 2 (by decide) (ht _ k_fl_Z_60) (fun _ h9 => h9) rfl d_Z_block_6 ?_
  refine lv_bipush (v := 24) hx hb d_Z_block_9 (by decide) ?_
  refine lv_icmp_ne (tgt := 20) hx hb d_Z_block_11 (by decide) (fun c_11 => ?_) (fun c_11 => ?_)
  · refine lv_aload_n hx hb d_Z_block_20 rfl (lv_at hl 0 rfl) ?_
    refine lv_dup hx hb d_Z_block_21 rfl ?_
    refine va_get (ci := 5) (v := .int bl) (C := R_Z) (T := T_Z) (N := 26) hx hb ht in_Z hown hK.1 hP 0 rfl rfl 2 (by decide) (ht _ k_fl_Z_60) (fun _ h9 => h9) rfl d_Z_block_22 ?_
    refine lv_iconst (v := 1) hx hb d_Z_block_25 (by decide) ?_
    refine lv_iadd hx hb d_Z_block_26 ?_
    refine va_put (ci := 5) (v := .int (bl + 1)) (ty := .int) (C := R_Z) (T := T_Z) (N := 26) hx hb ht in_Z t_Z t_Z_ok n_Z hown hK.1 hP hD hS 0 rfl rfl 2 (by decide) (ht _ k_fl_Z_60) (fun _ h9 => h9) rfl (by decide +kernel) rfl rfl (Nat.le_of_ble_eq_true rfl) d_Z_block_27 (fun H locs hP hD hS => ?_)
    have hP : va_P D vwCl ((wZ cI cL z0 y1 y2 y3 y4 y5 y6 y7 y8 y9 y10 y11 y12 y13 y14 mn oo oa ob ss gg zz md sd da rg pp kp ot 0 li (bl + 1) nw wr ru al sp en ke kb at0) ++ fr) H := hP
    have hD : va_D A ((wZ cI cL z0 y1 y2 y3 y4 y5 y6 y7 y8 y9 y10 y11 y12 y13 y14 mn oo oa ob ss gg zz md sd da rg pp kp ot 0 li (bl + 1) nw wr ru al sp en ke kb at0) ++ fr) := hD
    refine lv_aload_n hx hb d_Z_block_30 rfl (lv_at hl 0 rfl) ?_
    refine va_get (ci := 5) (v := .int (bl + 1)) (C := R_Z) (T := T_Z) (N := 26) hx hb ht in_Z hown hK.1 hP 0 rfl rfl 2 (by decide) (ht _ k_fl_Z_60) (fun _ h9 => h9) rfl d_Z_block_31 ?_
    refine lv_iconst (v := 1) hx hb d_Z_block_34 (by decide) ?_
    refine lv_isub hx hb d_Z_block_35 ?_
    rw [hQ]; exact retMi (w1 := fun u : Int32 × Int32 => ((wZ cI cL z0 y1 y2 y3 y4 y5 y6 y7 y8 y9 y10 y11 y12 y13 y14 mn oo oa ob ss gg zz md sd da rg pp kp ot u.1 li u.2 nw wr ru al sp en ke kb at0) ++ fr)) (0, bl + 1) hx hb hr hlocks hP hD hS (by rw [if_neg c_11]) d_Z_block_36
  · refine lv_aload_n hx hb d_Z_block_14 rfl (lv_at hl 0 rfl) ?_
    refine lv_iconst (v := 1) hx hb d_Z_block_15 (by decide) ?_
    refine goMi (va_runV (As := [.int 1]) (rest := []) ⟨hx, hb, hml, hown, hts⟩ (c_Z_fail l D cI cL cO z0 y1 y2 y3 y4 y5 y6 y7 y8 y9 y10 y11 y12 y13 y14 mn oo oa ob ss gg zz md sd da rg pp kp ot 0 li bl nw wr ru al sp en ke kb at0 fr 1 H.size) (cwV 1 hts (gBIG (m4 k_ml_Z_67 k_im_Z_fail k_sel_Z_fail k_ini_Z) k_co_Z_fail) rfl rfl rfl (by decide +kernel) ⟨Nat.le_of_ble_eq_true rfl, Nat.le_of_ble_eq_true rfl⟩) ⟨PM.bl, va_recv hK.1 hP (ci := 5) (q0 := 0) rfl rfl, PM.pre hP hD hK⟩ rfl rfl hl.1 rfl (lv_room (Nat.le_of_ble_eq_true rfl)) d_Z_block_16 ⟨Nat.le_of_ble_eq_true rfl, Nat.le_of_ble_eq_true rfl⟩) hD hS hA (fun r_16 u H locs hw hP hD hS => ?_)
    obtain ⟨rfl, rfl⟩ := hw
    have hP : va_P D vwCl ((wZ cI cL z0 y1 y2 y3 y4 y5 y6 y7 y8 y9 y10 y11 y12 y13 y14 mn oo oa ob ss gg zz md sd da rg pp kp ot 1 li bl nw wr ru al sp en ke kb at0) ++ fr) H := hP
    have hD : va_D A ((wZ cI cL z0 y1 y2 y3 y4 y5 y6 y7 y8 y9 y10 y11 y12 y13 y14 mn oo oa ob ss gg zz md sd da rg pp kp ot 1 li bl nw wr ru al sp en ke kb at0) ++ fr) := hD
    rw [hQ]; exact retMi (w1 := fun u : Int32 × Int32 => ((wZ cI cL z0 y1 y2 y3 y4 y5 y6 y7 y8 y9 y10 y11 y12 y13 y14 mn oo oa ob ss gg zz md sd da rg pp kp ot u.1 li u.2 nw wr ru al sp en ke kb at0) ++ fr)) (1, bl) hx hb hr hlocks hP hD hS (by rw [if_pos c_11]) d_Z_block_19
