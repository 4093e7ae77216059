abbrev w_K_standsWhole : List Cond := .code y_K_standsWhole b_K_standsWhole 4 (some .boolean) :: BIG
set_option maxHeartbeats 4000000 in
set_option maxRecDepth 100000 in
theorem c_K_standsWhole (l : Launch) (D : va_G) (cI cL cO : ClassId) (h0 : Nat) (q1 : Nat) (q2 : Nat) (q3 : Nat) (q4 : Nat) (q5 : Nat) (o : Fn) (f : Fn) (ee : Fn) (t : Fn) (b : Fn) (ic : Int32) (bc : Int32) (sa : Int32) (gn : Int32) (at1 : Int32) (cd : Int32) : CRi l y_K_standsWhole w_K_standsWhole ({ frames := 2, cells := 0, slots := 0, locals := 42 }) D cI cL cO [.ref h0, .int at1, .int cd] (wB cI h0 q1 q2 q3 q4 q5 o f ee t b ic bc sa gn) (wholeF b bc at1 cd) := by
  refine ofR (cc := b_K_standsWhole) (maxL := 4) (ret := (some .boolean)) (by decide) rfl (Nat.le_of_ble_eq_true rfl) ?_
  intro p e s m below meth c ls Q hQ hx hb hr hlocks hts hown hml hP hK hl
  have hl : lv_has ls 4 [(0, .ref h0), (1, .int at1), (2, .int cd)] := hl
  have hown : s.vm.findClass R_K = some m.cls := hown
  have ht : ∀ w ∈ BIG, w.before _ s = true := fun w h => hts w (List.mem_cons_of_mem _ h)
  refine lv_iload_n hx hb d_K_standsWhole_0 rfl (lv_at hl 1 rfl) ?_
  refine lv_iload_n hx hb d_K_standsWhole_1 rfl (lv_at hl 2 rfl) ?_
  refine goRi (va_runSN (As := [.int cd]) (rest := [.int at1]) ⟨hx, hb, hml, hown, hts⟩ (c_M_lengthOf l D cI cL cO cd) ⟨va_cnB 1 hts (gB0 k_co_M_lengthOf) rfl rfl rfl (hK.2 _ n_ml_K_38) (ht _ k_ini_M) (by decide +kernel) ⟨Nat.le_of_ble_eq_true rfl, Nat.le_of_ble_eq_true rfl⟩, ht _ k_st_M_lengthOf, trivial⟩ ⟨PR.bl, PR.pre P_nil hK⟩ rfl rfl hl.1 rfl (lv_room (Nat.le_of_ble_eq_true rfl)) d_K_standsWhole_2 ⟨Nat.le_of_ble_eq_true rfl, Nat.le_of_ble_eq_true rfl⟩) ?_
  refine lv_iadd hx hb d_K_standsWhole_5 ?_
  refine lv_aload_n hx hb d_K_standsWhole_6 rfl (lv_at hl 0 rfl) ?_
  refine va_getN (ci := 0) (v := .int bc) (C := R_B) (T := T_B) (N := 9) hx hb ht in_B hown hK.1 hP 0 rfl rfl 6 (by decide) (va_Nw.use rfl (hK.2 _ n_fl_K_28)) (fun _ h9 => h9) rfl d_K_standsWhole_7 ?_
  refine lv_icmp_le (tgt := 15) hx hb d_K_standsWhole_10 (by decide) (fun c_10 => ?_) (fun c_10 => ?_)
  · refine lv_iload_n hx hb d_K_standsWhole_15 rfl (lv_at hl 2 rfl) ?_
    refine lv_iconst (v := 1) hx hb d_K_standsWhole_16 (by decide) ?_
    refine lv_icmp_eq (tgt := 25) hx hb d_K_standsWhole_17 (by decide) (fun c_17 => ?_) (fun c_17 => ?_)
    · refine lv_iconst (v := 1) hx hb d_K_standsWhole_25 (by decide) ?_
      refine lv_goto (tgt := 30) hx hb d_K_standsWhole_26 (by decide) ?_
      refine lv_istore_n (lv' := [(3, .int 1), (0, .ref h0), (1, .int at1), (2, .int cd)]) hx hb d_K_standsWhole_30 rfl hl (by decide) rfl (fun ls hl => ?_)
      refine lv_iload_n hx hb d_K_standsWhole_31 rfl (lv_at hl 0 rfl) ?_
      refine lv_if_eq (tgt := 48) hx hb d_K_standsWhole_32 (by decide) (fun c_32 => ?_) (fun c_32 => ?_)
      · exact absurd c_32 (by decide)
      · refine lv_aload_n hx hb d_K_standsWhole_35 rfl (lv_at hl 1 rfl) ?_
        refine lv_iload_n hx hb d_K_standsWhole_36 rfl (lv_at hl 2 rfl) ?_
        refine lv_iconst (v := 1) hx hb d_K_standsWhole_37 (by decide) ?_
        refine lv_iadd hx hb d_K_standsWhole_38 ?_
        refine goRi (va_runVN (As := [.int (at1 + 1)]) (rest := []) ⟨hx, hb, hml, hown, hts⟩ (c_B_read l D cI cL cO h0 q1 q2 q3 q4 q5 o f ee t b ic bc sa gn (at1 + 1)) ⟨va_cnB 1 hts (gB0 k_co_B_read) rfl rfl rfl (hK.2 _ n_ml_K_34) (ht _ k_ini_B) (by decide +kernel) ⟨Nat.le_of_ble_eq_true rfl, Nat.le_of_ble_eq_true rfl⟩, ht _ k_im_B_read, ht _ k_sel_B_read⟩ ⟨PR.bl, va_recv hK.1 hP (ci := 0) (q0 := 0) rfl rfl, PR.pre hP hK⟩ rfl rfl hl.1 rfl (lv_room (Nat.le_of_ble_eq_true rfl)) d_K_standsWhole_39 ⟨Nat.le_of_ble_eq_true rfl, Nat.le_of_ble_eq_true rfl⟩) ?_
        refine goRi (va_runSN (As := [.int (rdF b bc (at1 + 1))]) (rest := []) ⟨hx, hb, hml, hown, hts⟩ (c_M_isRegister l D cI cL cO (rdF b bc (at1 + 1))) ⟨va_cnB 1 hts (gB0 k_co_M_isRegister) rfl rfl rfl (hK.2 _ n_ml_K_65) (ht _ k_ini_M) (by decide +kernel) ⟨Nat.le_of_ble_eq_true rfl, Nat.le_of_ble_eq_true rfl⟩, ht _ k_st_M_isRegister, trivial⟩ ⟨PR.bl, PR.pre P_nil hK⟩ rfl rfl hl.1 rfl (lv_room (Nat.le_of_ble_eq_true rfl)) d_K_standsWhole_42 ⟨Nat.le_of_ble_eq_true rfl, Nat.le_of_ble_eq_true rfl⟩) ?_
        refine lv_if_eq (tgt := 52) hx hb d_K_standsWhole_45 (by decide) (fun c_45 => ?_) (fun c_45 => ?_)
        · refine lv_iconst (v := 0) hx hb d_K_standsWhole_52 (by decide) ?_
          rw [hQ]; exact retRz hx hb hr hlocks rfl (by first | (simp only [wholeF, if_pos c_10, if_pos c_17, if_pos c_45]; done) | simp [wholeF, c_10, c_17, c_45]) d_K_standsWhole_53
        · refine lv_iconst (v := 1) hx hb d_K_standsWhole_48 (by decide) ?_
          refine lv_goto (tgt := 53) hx hb d_K_standsWhole_49 (by decide) ?_
          rw [hQ]; exact retRz hx hb hr hlocks rfl (by first | (simp only [wholeF, if_pos c_10, if_pos c_17, if_neg c_45]; done) | simp [wholeF, c_10, c_17, c_45]) d_K_standsWhole_53
    · refine lv_iload_n hx hb d_K_standsWhole_20 rfl (lv_at hl 2 rfl) ?_
      refine lv_iconst (v := 2) hx hb d_K_standsWhole_21 (by decide) ?_
      refine lv_icmp_ne (tgt := 29) hx hb d_K_standsWhole_22 (by decide) (fun c_22 => ?_) (fun c_22 => ?_)
      · refine lv_iconst (v := 0) hx hb d_K_standsWhole_29 (by decide) ?_
        refine lv_istore_n (lv' := [(3, .int 0), (0, .ref h0), (1, .int at1), (2, .int cd)]) hx hb d_K_standsWhole_30 rfl hl (by decide) rfl (fun ls hl => ?_)
        refine lv_iload_n hx hb d_K_standsWhole_31 rfl (lv_at hl 0 rfl) ?_
        refine lv_if_eq (tgt := 48) hx hb d_K_standsWhole_32 (by decide) (fun c_32 => ?_) (fun c_32 => ?_)
        · refine lv_iconst (v := 1) hx hb d_K_standsWhole_48 (by decide) ?_
          refine lv_goto (tgt := 53) hx hb d_K_standsWhole_49 (by decide) ?_
          rw [hQ]; exact retRz hx hb hr hlocks rfl (by first | (simp only [wholeF, if_pos c_10, if_neg c_17, if_neg c_22]; done) | simp [wholeF, c_10, c_17, c_22]) d_K_standsWhole_53
        · exact absurd c_32 (by decide)
      · refine lv_iconst (v := 1) hx hb d_K_standsWhole_25 (by decide) ?_
        refine lv_goto (tgt := 30) hx hb d_K_standsWhole_26 (by decide) ?_
        refine lv_istore_n (lv' := [(3, .int 1), (0, .ref h0), (1, .int at1), (2, .int cd)]) hx hb d_K_standsWhole_30 rfl hl (by decide) rfl (fun ls hl => ?_)
        refine lv_iload_n hx hb d_K_standsWhole_31 rfl (lv_at hl 0 rfl) ?_
        refine lv_if_eq (tgt := 48) hx hb d_K_standsWhole_32 (by decide) (fun c_32 => ?_) (fun c_32 => ?_)
        · exact absurd c_32 (by decide)
        · refine lv_aload_n hx hb d_K_standsWhole_35 rfl (lv_at hl 1 rfl) ?_
          refine lv_iload_n hx hb d_K_standsWhole_36 rfl (lv_at hl 2 rfl) ?_
          refine lv_iconst (v := 1) hx hb d_K_standsWhole_37 (by decide) ?_
          refine lv_iadd hx hb d_K_standsWhole_38 ?_
          refine goRi (va_runVN (As := [.int (at1 + 1)]) (rest := []) ⟨hx, hb, hml, hown, hts⟩ (c_B_read l D cI cL cO h0 q1 q2 q3 q4 q5 o f ee t b ic bc sa gn (at1 + 1)) ⟨va_cnB 1 hts (gB0 k_co_B_read) rfl rfl rfl (hK.2 _ n_ml_K_34) (ht _ k_ini_B) (by decide +kernel) ⟨Nat.le_of_ble_eq_true rfl, Nat.le_of_ble_eq_true rfl⟩, ht _ k_im_B_read, ht _ k_sel_B_read⟩ ⟨PR.bl, va_recv hK.1 hP (ci := 0) (q0 := 0) rfl rfl, PR.pre hP hK⟩ rfl rfl hl.1 rfl (lv_room (Nat.le_of_ble_eq_true rfl)) d_K_standsWhole_39 ⟨Nat.le_of_ble_eq_true rfl, Nat.le_of_ble_eq_true rfl⟩) ?_
          refine goRi (va_runSN (As := [.int (rdF b bc (at1 + 1))]) (rest := []) ⟨hx, hb, hml, hown, hts⟩ (c_M_isRegister l D cI cL cO (rdF b bc (at1 + 1))) ⟨va_cnB 1 hts (gB0 k_co_M_isRegister) rfl rfl rfl (hK.2 _ n_ml_K_65) (ht _ k_ini_M) (by decide +kernel) ⟨Nat.le_of_ble_eq_true rfl, Nat.le_of_ble_eq_true rfl⟩, ht _ k_st_M_isRegister, trivial⟩ ⟨PR.bl, PR.pre P_nil hK⟩ rfl rfl hl.1 rfl (lv_room (Nat.le_of_ble_eq_true rfl)) d_K_standsWhole_42 ⟨Nat.le_of_ble_eq_true rfl, Nat.le_of_ble_eq_true rfl⟩) ?_
          refine lv_if_eq (tgt := 52) hx hb d_K_standsWhole_45 (by decide) (fun c_45 => ?_) (fun c_45 => ?_)
          · refine lv_iconst (v := 0) hx hb d_K_standsWhole_52 (by decide) ?_
            rw [hQ]; exact retRz hx hb hr hlocks rfl (by first | (simp only [wholeF, if_pos c_10, if_neg c_17, if_pos c_22, if_pos c_45]; done) | simp [wholeF, c_10, c_17, c_22, c_45]) d_K_standsWhole_53
          · refine lv_iconst (v := 1) hx hb d_K_standsWhole_48 (by decide) ?_
            refine lv_goto (tgt := 53) hx hb d_K_standsWhole_49 (by decide) ?_
            rw [hQ]; exact retRz hx hb hr hlocks rfl (by first | (simp only [wholeF, if_pos c_10, if_neg c_17, if_pos c_22, if_neg c_45]; done) | simp [wholeF, c_10, c_17, c_22, c_45]) d_K_standsWhole_53
  · refine lv_iconst (v := 0) hx hb d_K_standsWhole_13 (by decide) ?_
    rw [hQ]; exact retRz hx hb hr hlocks rfl (by first | (simp only [wholeF, if_neg c_10]; done) | simp [wholeF, c_10]) d_K_standsWhole_14

abbrev w_K_verdictOnEnd : List Cond := .code y_K_verdictOnEnd b_K_verdictOnEnd 4 (some .int) :: BIG
set_option maxHeartbeats 4000000 in
set_option maxRecDepth 100000 in
theorem c_K_verdictOnEnd (l : Launch) (D : va_G) (cI cL cO : ClassId) (k0 : Nat) (k1 : Nat) (h0 : Nat) (q1 : Nat) (q2 : Nat) (q3 : Nat) (q4 : Nat) (q5 : Nat) (o : Fn) (f : Fn) (ee : Fn) (t : Fn) (b : Fn) (ic : Int32) (bc : Int32) (sa : Int32) (gn : Int32) (at1 : Int32) (dp : Int32) : CRi l y_K_verdictOnEnd w_K_verdictOnEnd ({ frames := 1, cells := 0, slots := 0, locals := 20 }) D cI cL cO [.ref k0, .ref h0, .int at1, .int dp] ((wK k0 k1) ++ (wB cI h0 q1 q2 q3 q4 q5 o f ee t b ic bc sa gn)) (endF bc at1 dp) := by
  refine ofR (cc := b_K_verdictOnEnd) (maxL := 4) (ret := (some .int)) (by decide) rfl (Nat.le_of_ble_eq_true rfl) ?_
  intro p e s m below meth c ls Q hQ hx hb hr hlocks hts hown hml hP hK hl
  have hl : lv_has ls 4 [(0, .ref k0), (1, .ref h0), (2, .int at1), (3, .int dp)] := hl
  have hown : s.vm.findClass R_K = some m.cls := hown
  have ht : ∀ w ∈ BIG, w.before _ s = true := fun w h => hts w (List.mem_cons_of_mem _ h)
  refine lv_iload_n hx hb d_K_verdictOnEnd_0 rfl (lv_at hl 3 rfl) ?_
  refine lv_if_eq (tgt := 9) hx hb d_K_verdictOnEnd_1 (by decide) (fun c_1 => ?_) (fun c_1 => ?_)
  · refine lv_iload_n hx hb d_K_verdictOnEnd_9 rfl (lv_at hl 2 rfl) ?_
    refine lv_iconst (v := 1) hx hb d_K_verdictOnEnd_10 (by decide) ?_
    refine lv_iadd hx hb d_K_verdictOnEnd_11 ?_
    refine lv_aload_n hx hb d_K_verdictOnEnd_12 rfl (lv_at hl 1 rfl) ?_
    refine va_getN (ci := 0) (v := .int bc) (C := R_B) (T := T_B) (N := 9) hx hb ht in_B hown hK.1 hP 1 rfl rfl 6 (by decide) (va_Nw.use rfl (hK.2 _ n_fl_K_28)) (fun _ h9 => h9) rfl d_K_verdictOnEnd_13 ?_
    refine lv_icmp_ge (tgt := 28) hx hb d_K_verdictOnEnd_16 (by decide) (fun c_16 => ?_) (fun c_16 => ?_)
    · refine lv_iconst (v := 0) hx hb d_K_verdictOnEnd_28 (by decide) ?_
      rw [hQ]; exact retRi hx hb hr hlocks (by first | (simp only [endF, if_pos c_1, if_pos c_16]; done) | simp [endF, c_1, c_16]) d_K_verdictOnEnd_29
    · refine lv_iload_n hx hb d_K_verdictOnEnd_19 rfl (lv_at hl 2 rfl) ?_
      refine lv_iconst (v := 1) hx hb d_K_verdictOnEnd_20 (by decide) ?_
      refine lv_iadd hx hb d_K_verdictOnEnd_21 ?_
      refine goRi (va_runS (As := [.int (at1 + 1)]) (rest := []) ⟨hx, hb, hml, hown, hts⟩ (c_K_wrongAt l D cI cL cO (at1 + 1)) (cwS 1 hts (gBIG (m3 k_ml_K_48 k_st_K_wrongAt k_ini_K) k_co_K_wrongAt) rfl rfl rfl (by decide +kernel) ⟨Nat.le_of_ble_eq_true rfl, Nat.le_of_ble_eq_true rfl⟩) ⟨PR.bl, PR.pre P_nil hK⟩ rfl rfl hl.1 rfl (lv_room (Nat.le_of_ble_eq_true rfl)) d_K_verdictOnEnd_22 ⟨Nat.le_of_ble_eq_true rfl, Nat.le_of_ble_eq_true rfl⟩) ?_
      refine lv_goto (tgt := 29) hx hb d_K_verdictOnEnd_25 (by decide) ?_
      rw [hQ]; exact retRi hx hb hr hlocks (by first | (simp only [endF, if_pos c_1, if_neg c_16]; done) | simp [endF, c_1, c_16]) d_K_verdictOnEnd_29
  · refine lv_iload_n hx hb d_K_verdictOnEnd_4 rfl (lv_at hl 2 rfl) ?_
    refine goRi (va_runS (As := [.int at1]) (rest := []) ⟨hx, hb, hml, hown, hts⟩ (c_K_wrongAt l D cI cL cO at1) (cwS 1 hts (gBIG (m3 k_ml_K_48 k_st_K_wrongAt k_ini_K) k_co_K_wrongAt) rfl rfl rfl (by decide +kernel) ⟨Nat.le_of_ble_eq_true rfl, Nat.le_of_ble_eq_true rfl⟩) ⟨PR.bl, PR.pre P_nil hK⟩ rfl rfl hl.1 rfl (lv_room (Nat.le_of_ble_eq_true rfl)) d_K_verdictOnEnd_5 ⟨Nat.le_of_ble_eq_true rfl, Nat.le_of_ble_eq_true rfl⟩) ?_
    rw [hQ]; exact retRi hx hb hr hlocks (by first | (simp only [endF, if_neg c_1]; done) | simp [endF, c_1]) d_K_verdictOnEnd_8

abbrev w_K_isGoal : List Cond := .code y_K_isGoal b_K_isGoal 2 (some .boolean) :: BIG
set_option maxHeartbeats 4000000 in
set_option maxRecDepth 100000 in
theorem c_K_isGoal (l : Launch) (D : va_G) (cI cL cO : ClassId) (k0 : Nat) (k1 : Nat) (dd : Fn) (i : Int32) : CRi l y_K_isGoal w_K_isGoal ({ frames := 0, cells := 0, slots := 0, locals := 0 }) D cI cL cO [.ref k0, .int i] ((wK k0 k1) ++ (wI3 cI k1 dd)) (goalF dd i) := by
  refine ofR (cc := b_K_isGoal) (maxL := 2) (ret := (some .boolean)) (by decide) rfl (Nat.le_of_ble_eq_true rfl) ?_
  intro p e s m below meth c ls Q hQ hx hb hr hlocks hts hown hml hP hK hl
  have hl : lv_has ls 2 [(0, .ref k0), (1, .int i)] := hl
  have hown : s.vm.findClass R_K = some m.cls := hown
  have ht : ∀ w ∈ BIG, w.before _ s = true := fun w h => hts w (List.mem_cons_of_mem _ h)
  refine lv_iload_n hx hb d_K_isGoal_0 rfl (lv_at hl 1 rfl) ?_
  refine lv_if_lt (tgt := 24) hx hb d_K_isGoal_1 (by decide) (fun c_1 => ?_) (fun c_1 => ?_)
  · refine lv_iconst (v := 0) hx hb d_K_isGoal_24 (by decide) ?_
    rw [hQ]; exact retRz hx hb hr hlocks rfl (by first | (simp only [goalF, if_pos c_1]; done) | simp [goalF, c_1]) d_K_isGoal_25
  · refine lv_iload_n hx hb d_K_isGoal_4 rfl (lv_at hl 1 rfl) ?_
    refine lv_sipush (v := 300) hx hb d_K_isGoal_5 (by decide) ?_
    refine lv_icmp_ge (tgt := 24) hx hb d_K_isGoal_8 (by decide) (fun c_8 => ?_) (fun c_8 => ?_)
    · refine lv_iconst (v := 0) hx hb d_K_isGoal_24 (by decide) ?_
      rw [hQ]; exact retRz hx hb hr hlocks rfl (by first | (simp only [goalF, if_neg c_1, if_pos c_8]; done) | simp [goalF, c_1, c_8]) d_K_isGoal_25
    · refine lv_aload_n hx hb d_K_isGoal_11 rfl (lv_at hl 0 rfl) ?_
      refine va_get (ci := 1) (v := .ref k1) (C := R_K) (T := T_K) (N := 1) hx hb ht in_K hown hK.1 hP 0 rfl rfl 0 (by decide) (ht _ k_fl_K_9) (fun _ h9 => h9) rfl d_K_isGoal_12 ?_
      refine lv_iload_n hx hb d_K_isGoal_15 rfl (lv_at hl 1 rfl) ?_
      refine va_iald hx hb hK.1 hP 1 0 rfl rfl (in_of (N := 300) (by decide) c_1 c_8) d_K_isGoal_16 ?_
      refine lv_if_ne (tgt := 24) hx hb d_K_isGoal_17 (by decide) (fun c_17 => ?_) (fun c_17 => ?_)
      · refine lv_iconst (v := 0) hx hb d_K_isGoal_24 (by decide) ?_
        rw [hQ]; exact retRz hx hb hr hlocks rfl (by first | (simp only [goalF, if_neg c_1, if_neg c_8, if_neg c_17]; done) | simp [goalF, c_1, c_8, c_17]) d_K_isGoal_25
      · refine lv_iconst (v := 1) hx hb d_K_isGoal_20 (by decide) ?_
        refine lv_goto (tgt := 25) hx hb d_K_isGoal_21 (by decide) ?_
        rw [hQ]; exact retRz hx hb hr hlocks rfl (by first | (simp only [goalF, if_neg c_1, if_neg c_8, if_pos c_17]; done) | simp [goalF, c_1, c_8, c_17]) d_K_isGoal_25

abbrev w_K_verdictOnBranches : List Cond := .code y_K_verdictOnBranches b_K_verdictOnBranches 4 (some .int) :: BIG
set_option maxHeartbeats 4000000 in
set_option maxRecDepth 100000 in
theorem c_K_verdictOnBranches (l : Launch) (D : va_G) (cI cL cO : ClassId) (k0 : Nat) (k1 : Nat) (dd : Fn) (h0 : Nat) (q1 : Nat) (q2 : Nat) (q3 : Nat) (q4 : Nat) (q5 : Nat) (o : Fn) (f : Fn) (ee : Fn) (t : Fn) (b : Fn) (ic : Int32) (bc : Int32) (sa : Int32) (gn : Int32) : CRi l y_K_verdictOnBranches w_K_verdictOnBranches ({ frames := 3, cells := 0, slots := 0, locals := 63 }) D cI cL cO [.ref k0, .ref h0] ((wK k0 k1) ++ ((wI3 cI k1 dd) ++ (wB cI h0 q1 q2 q3 q4 q5 o f ee t b ic bc sa gn))) (vbL b bc dd 301 0) := by
  refine ofR (cc := b_K_verdictOnBranches) (maxL := 4) (ret := (some .int)) (by decide) rfl (Nat.le_of_ble_eq_true rfl) ?_
  intro p e s m below meth c ls Q hQ hx hb hr hlocks hts hown hml hP hK hl
  have hl : lv_has ls 4 [(0, .ref k0), (1, .ref h0)] := hl
  have hown : s.vm.findClass R_K = some m.cls := hown
  have ht : ∀ w ∈ BIG, w.before _ s = true := fun w h => hts w (List.mem_cons_of_mem _ h)
  refine lv_iconst (v := 0) hx hb d_K_verdictOnBranches_0 (by decide) ?_
  refine lv_istore_n (lv' := [(2, .int 0), (0, .ref k0), (1, .ref h0)]) hx hb d_K_verdictOnBranches_1 rfl hl (by decide) rfl (fun ls hl => ?_)
  have lp : ∀ (n : Nat) (i : Int32) (ls : Array Slot), (i.toInt + (n : Int) = 301) → (0 ≤ i.toInt ∧ i.toInt ≤ 300) → (vbL b bc dd n i = vbL b bc dd 301 0) → lv_has ls 4 [(0, .ref k0), (1, .ref h0), (2, .int i)] → W p l e ({ frames := 3, cells := 0, slots := 0, locals := 63 } : Room) s m ([.ref k0, .ref h0] : List Value).toArray below meth c s.heap [] 0 0 Q (F0 m 2 ls []) := by
    intro n
    induction n with
    | zero =>
      intro i ls hn hi hF hl
      exact absurd hn (by omega)
    | succ n ih =>
      intro i ls hn hi hF hl
      refine lv_iload_n hx hb d_K_verdictOnBranches_2 rfl (lv_at hl 2 rfl) ?_
      refine lv_aload_n hx hb d_K_verdictOnBranches_3 rfl (lv_at hl 1 rfl) ?_
      refine va_getN (ci := 0) (v := .int bc) (C := R_B) (T := T_B) (N := 9) hx hb ht in_B hown hK.1 hP 2 rfl rfl 6 (by decide) (va_Nw.use rfl (hK.2 _ n_fl_K_28)) (fun _ h9 => h9) rfl d_K_verdictOnBranches_4 ?_
      refine lv_icmp_ge (tgt := 86) hx hb d_K_verdictOnBranches_7 (by decide) (fun c_7 => ?_) (fun c_7 => ?_)
      · refine lv_iconst (v := 0) hx hb d_K_verdictOnBranches_86 (by decide) ?_
        rw [hQ]; exact retRi hx hb hr hlocks (by rw [← hF]; first | (simp only [vbL, if_pos c_7]; done) | simp [vbL, c_7]) d_K_verdictOnBranches_87
      · refine lv_iload_n hx hb d_K_verdictOnBranches_10 rfl (lv_at hl 2 rfl) ?_
        refine lv_sipush (v := 300) hx hb d_K_verdictOnBranches_11 (by decide) ?_
        refine lv_icmp_ge (tgt := 86) hx hb d_K_verdictOnBranches_14 (by decide) (fun c_14 => ?_) (fun c_14 => ?_)
        · refine lv_iconst (v := 0) hx hb d_K_verdictOnBranches_86 (by decide) ?_
          rw [hQ]; exact retRi hx hb hr hlocks (by rw [← hF]; first | (simp only [vbL, if_neg c_7, if_pos c_14]; done) | simp [vbL, c_7, c_14]) d_K_verdictOnBranches_87
        · refine lv_aload_n hx hb d_K_verdictOnBranches_17 rfl (lv_at hl 0 rfl) ?_
          refine va_get (ci := 1) (v := .ref k1) (C := R_K) (T := T_K) (N := 1) hx hb ht in_K hown hK.1 hP 0 rfl rfl 0 (by decide) (ht _ k_fl_K_9) (fun _ h9 => h9) rfl d_K_verdictOnBranches_18 ?_
          refine lv_iload_n hx hb d_K_verdictOnBranches_21 rfl (lv_at hl 2 rfl) ?_
          refine va_iald hx hb hK.1 hP 1 0 rfl rfl (in_of (N := 300) (by decide) (nn_of hi.1) c_14) d_K_verdictOnBranches_22 ?_
          refine lv_iconst (v := (-1)) hx hb d_K_verdictOnBranches_23 (by decide) ?_
          refine lv_icmp_eq (tgt := 41) hx hb d_K_verdictOnBranches_24 (by decide) (fun c_24 => ?_) (fun c_24 => ?_)
          · refine lv_iconst (v := 0) hx hb d_K_verdictOnBranches_41 (by decide) ?_
            refine lv_istore_n (lv' := [(3, .int 0), (0, .ref k0), (1, .ref h0), (2, .int i)]) hx hb d_K_verdictOnBranches_42 rfl hl (by decide) rfl (fun ls hl => ?_)
            refine lv_iload_n hx hb d_K_verdictOnBranches_43 rfl (lv_at hl 0 rfl) ?_
            refine lv_if_eq (tgt := 80) hx hb d_K_verdictOnBranches_44 (by decide) (fun c_44 => ?_) (fun c_44 => ?_)
            · refine lv_iinc (v := i + 1) (lv' := [(2, .int (i + 1)), (3, .int 0), (0, .ref k0), (1, .ref h0)]) hx hb d_K_verdictOnBranches_80 hl (k := 3) rfl rfl (by decide) rfl (fun ls hl => ?_)
              refine lv_goto (tgt := 2) hx hb d_K_verdictOnBranches_83 (by decide) ?_
              exact ih (i + 1) ls (by rw [i32_1 (by omega)]; omega) (by rw [i32_1 (by omega)]; have := i_lt c_14; have h3 : (300 : Int32).toInt = 300 := (by decide); omega) (by rw [← hF]; first | (simp only [vbL, if_neg c_7, if_neg c_14, if_pos c_24]; done) | simp [vbL, c_7, c_14, c_24]) (lv_sub hl [2, 3, 0] rfl)
            · exact absurd c_44 (by decide)
          · refine lv_aload_n hx hb d_K_verdictOnBranches_27 rfl (lv_at hl 1 rfl) ?_
            refine lv_iload_n hx hb d_K_verdictOnBranches_28 rfl (lv_at hl 2 rfl) ?_
            refine goRi (va_runVN (As := [.int i]) (rest := []) ⟨hx, hb, hml, hown, hts⟩ (c_B_read l D cI cL cO h0 q1 q2 q3 q4 q5 o f ee t b ic bc sa gn i) ⟨va_cnB 1 hts (gB0 k_co_B_read) rfl rfl rfl (hK.2 _ n_ml_K_34) (ht _ k_ini_B) (by decide +kernel) ⟨Nat.le_of_ble_eq_true rfl, Nat.le_of_ble_eq_true rfl⟩, ht _ k_im_B_read, ht _ k_sel_B_read⟩ ⟨PR.bl, va_recv hK.1 ((P_app.mp (P_app.mp hP).2).2) (ci := 0) (q0 := 0) rfl rfl, PR.pre ((P_app.mp (P_app.mp hP).2).2) hK⟩ rfl rfl hl.1 rfl (lv_room (Nat.le_of_ble_eq_true rfl)) d_K_verdictOnBranches_29 ⟨Nat.le_of_ble_eq_true rfl, Nat.le_of_ble_eq_true rfl⟩) ?_
            refine lv_bipush (v := 9) hx hb d_K_verdictOnBranches_32 (by decide) ?_
            refine lv_icmp_ne (tgt := 41) hx hb d_K_verdictOnBranches_34 (by decide) (fun c_34 => ?_) (fun c_34 => ?_)
            · refine lv_iconst (v := 0) hx hb d_K_verdictOnBranches_41 (by decide) ?_
              refine lv_istore_n (lv' := [(3, .int 0), (0, .ref k0), (1, .ref h0), (2, .int i)]) hx hb d_K_verdictOnBranches_42 rfl hl (by decide) rfl (fun ls hl => ?_)
              refine lv_iload_n hx hb d_K_verdictOnBranches_43 rfl (lv_at hl 0 rfl) ?_
              refine lv_if_eq (tgt := 80) hx hb d_K_verdictOnBranches_44 (by decide) (fun c_44 => ?_) (fun c_44 => ?_)
              · refine lv_iinc (v := i + 1) (lv' := [(2, .int (i + 1)), (3, .int 0), (0, .ref k0), (1, .ref h0)]) hx hb d_K_verdictOnBranches_80 hl (k := 3) rfl rfl (by decide) rfl (fun ls hl => ?_)
                refine lv_goto (tgt := 2) hx hb d_K_verdictOnBranches_83 (by decide) ?_
                exact ih (i + 1) ls (by rw [i32_1 (by omega)]; omega) (by rw [i32_1 (by omega)]; have := i_lt c_14; have h3 : (300 : Int32).toInt = 300 := (by decide); omega) (by rw [← hF]; first | (simp only [vbL, if_neg c_7, if_neg c_14, if_neg c_24, if_neg c_34]; done) | simp [vbL, c_7, c_14, c_24, c_34]) (lv_sub hl [2, 3, 0] rfl)
              · exact absurd c_44 (by decide)
            · refine lv_iconst (v := 1) hx hb d_K_verdictOnBranches_37 (by decide) ?_
              refine lv_goto (tgt := 42) hx hb d_K_verdictOnBranches_38 (by decide) ?_
              refine lv_istore_n (lv' := [(3, .int 1), (0, .ref k0), (1, .ref h0), (2, .int i)]) hx hb d_K_verdictOnBranches_42 rfl hl (by decide) rfl (fun ls hl => ?_)
              refine lv_iload_n hx hb d_K_verdictOnBranches_43 rfl (lv_at hl 0 rfl) ?_
              refine lv_if_eq (tgt := 80) hx hb d_K_verdictOnBranches_44 (by decide) (fun c_44 => ?_) (fun c_44 => ?_)
              · exact absurd c_44 (by decide)
              · refine lv_aload_n hx hb d_K_verdictOnBranches_47 rfl (lv_at hl 1 rfl) ?_
                refine va_get (ci := 1) (v := .ref k1) (C := R_K) (T := T_K) (N := 1) hx hb ht in_K hown hK.1 hP 0 rfl rfl 0 (by decide) (ht _ k_fl_K_9) (fun _ h9 => h9) rfl d_K_verdictOnBranches_48 ?_
                refine lv_iload_n hx hb d_K_verdictOnBranches_51 rfl (lv_at hl 3 rfl) ?_
                refine va_iald hx hb hK.1 hP 1 0 rfl rfl (in_of (N := 300) (by decide) (nn_of hi.1) c_14) d_K_verdictOnBranches_52 ?_
                refine lv_bipush (v := 9) hx hb d_K_verdictOnBranches_53 (by decide) ?_
                refine goRi (va_runS (As := [.int 9]) (rest := [.int (dd i.toNatClampNeg)]) ⟨hx, hb, hml, hown, hts⟩ (c_K_takenBy l D cI cL cO 9) (cwS 1 hts (gBIG (m3 k_ml_K_45 k_st_K_takenBy k_ini_K) k_co_K_takenBy) rfl rfl rfl (by decide +kernel) ⟨Nat.le_of_ble_eq_true rfl, Nat.le_of_ble_eq_true rfl⟩) ⟨PR.bl, PR.pre P_nil hK⟩ rfl rfl hl.1 rfl (lv_room (Nat.le_of_ble_eq_true rfl)) d_K_verdictOnBranches_55 ⟨Nat.le_of_ble_eq_true rfl, Nat.le_of_ble_eq_true rfl⟩) ?_
                refine lv_icmp_ne (tgt := 75) hx hb d_K_verdictOnBranches_58 (by decide) (fun c_58 => ?_) (fun c_58 => ?_)
                · refine lv_iload_n hx hb d_K_verdictOnBranches_75 rfl (lv_at hl 3 rfl) ?_
                  refine goRi (va_runS (As := [.int i]) (rest := []) ⟨hx, hb, hml, hown, hts⟩ (c_K_wrongAt l D cI cL cO i) (cwS 1 hts (gBIG (m3 k_ml_K_48 k_st_K_wrongAt k_ini_K) k_co_K_wrongAt) rfl rfl rfl (by decide +kernel) ⟨Nat.le_of_ble_eq_true rfl, Nat.le_of_ble_eq_true rfl⟩) ⟨PR.bl, PR.pre P_nil hK⟩ rfl rfl hl.1 rfl (lv_room (Nat.le_of_ble_eq_true rfl)) d_K_verdictOnBranches_76 ⟨Nat.le_of_ble_eq_true rfl, Nat.le_of_ble_eq_true rfl⟩) ?_
                  rw [hQ]; exact retRi hx hb hr hlocks (by rw [← hF]; first | (simp only [vbL, if_neg c_7, if_neg c_14, if_neg c_24, if_pos c_34, if_neg c_58]; done) | simp [vbL, c_7, c_14, c_24, c_34, c_58]) d_K_verdictOnBranches_79
                · refine lv_aload_n hx hb d_K_verdictOnBranches_61 rfl (lv_at hl 1 rfl) ?_
                  refine lv_aload_n hx hb d_K_verdictOnBranches_62 rfl (lv_at hl 2 rfl) ?_
                  refine lv_iload_n hx hb d_K_verdictOnBranches_63 rfl (lv_at hl 3 rfl) ?_
                  refine lv_iconst (v := 1) hx hb d_K_verdictOnBranches_64 (by decide) ?_
                  refine lv_iadd hx hb d_K_verdictOnBranches_65 ?_
                  refine goRi (va_runVN (As := [.int (i + 1)]) (rest := [.ref k0]) ⟨hx, hb, hml, hown, hts⟩ (c_B_readTwo l D cI cL cO h0 q1 q2 q3 q4 q5 o f ee t b ic bc sa gn (i + 1)) ⟨va_cnB 1 hts (gB0 k_co_B_readTwo) rfl rfl rfl (hK.2 _ n_ml_K_58) (ht _ k_ini_B) (by decide +kernel) ⟨Nat.le_of_ble_eq_true rfl, Nat.le_of_ble_eq_true rfl⟩, ht _ k_im_B_readTwo, ht _ k_sel_B_readTwo⟩ ⟨PR.bl, va_recv hK.1 ((P_app.mp (P_app.mp hP).2).2) (ci := 0) (q0 := 0) rfl rfl, PR.pre ((P_app.mp (P_app.mp hP).2).2) hK⟩ rfl rfl hl.1 rfl (lv_room (Nat.le_of_ble_eq_true rfl)) d_K_verdictOnBranches_66 ⟨Nat.le_of_ble_eq_true rfl, Nat.le_of_ble_eq_true rfl⟩) ?_
                  refine goRi (va_runV (As := [.int (rd2F b bc (i + 1))]) (rest := []) ⟨hx, hb, hml, hown, hts⟩ (c_K_isGoal l D cI cL cO k0 k1 dd (rd2F b bc (i + 1))) (cwV 1 hts (gBIG (m4 k_ml_K_61 k_im_K_isGoal k_sel_K_isGoal k_ini_K) k_co_K_isGoal) rfl rfl rfl (by decide +kernel) ⟨Nat.le_of_ble_eq_true rfl, Nat.le_of_ble_eq_true rfl⟩) ⟨PR.bl, va_recv hK.1 (P_app.mpr ⟨(P_app.mp hP).1, (P_app.mp (P_app.mp hP).2).1⟩) (ci := 1) (q0 := 0) rfl rfl, PR.pre (P_app.mpr ⟨(P_app.mp hP).1, (P_app.mp (P_app.mp hP).2).1⟩) hK⟩ rfl rfl hl.1 rfl (lv_room (Nat.le_of_ble_eq_true rfl)) d_K_verdictOnBranches_69 ⟨Nat.le_of_ble_eq_true rfl, Nat.le_of_ble_eq_true rfl⟩) ?_
                  refine lv_if_ne (tgt := 80) hx hb d_K_verdictOnBranches_72 (by decide) (fun c_72 => ?_) (fun c_72 => ?_)
                  · refine lv_iinc (v := i + 1) (lv' := [(2, .int (i + 1)), (3, .int 1), (0, .ref k0), (1, .ref h0)]) hx hb d_K_verdictOnBranches_80 hl (k := 3) rfl rfl (by decide) rfl (fun ls hl => ?_)
                    refine lv_goto (tgt := 2) hx hb d_K_verdictOnBranches_83 (by decide) ?_
                    exact ih (i + 1) ls (by rw [i32_1 (by omega)]; omega) (by rw [i32_1 (by omega)]; have := i_lt c_14; have h3 : (300 : Int32).toInt = 300 := (by decide); omega) (by rw [← hF]; first | (simp only [vbL, if_neg c_7, if_neg c_14, if_neg c_24, if_pos c_34, if_pos c_58, if_neg c_72]; done) | simp [vbL, c_7, c_14, c_24, c_34, c_58, c_72]) (lv_sub hl [2, 3, 0] rfl)
                  · refine lv_iload_n hx hb d_K_verdictOnBranches_75 rfl (lv_at hl 3 rfl) ?_
                    refine goRi (va_runS (As := [.int i]) (rest := []) ⟨hx, hb, hml, hown, hts⟩ (c_K_wrongAt l D cI cL cO i) (cwS 1 hts (gBIG (m3 k_ml_K_48 k_st_K_wrongAt k_ini_K) k_co_K_wrongAt) rfl rfl rfl (by decide +kernel) ⟨Nat.le_of_ble_eq_true rfl, Nat.le_of_ble_eq_true rfl⟩) ⟨PR.bl, PR.pre P_nil hK⟩ rfl rfl hl.1 rfl (lv_room (Nat.le_of_ble_eq_true rfl)) d_K_verdictOnBranches_76 ⟨Nat.le_of_ble_eq_true rfl, Nat.le_of_ble_eq_true rfl⟩) ?_
                    rw [hQ]; exact retRi hx hb hr hlocks (by rw [← hF]; first | (simp only [vbL, if_neg c_7, if_neg c_14, if_neg c_24, if_pos c_34, if_pos c_58, if_pos c_72]; done) | simp [vbL, c_7, c_14, c_24, c_34, c_58, c_72]) d_K_verdictOnBranches_79
  exact lp 301 0 ls (by decide) (by decide) rfl (lv_sub hl [1, 2, 0] rfl)

abbrev w_K_verdictOnCodes : List Cond := .code y_K_verdictOnCodes b_K_verdictOnCodes 6 (some .int) :: BIG
set_option maxHeartbeats 4000000 in
set_option maxRecDepth 100000 in
theorem c_K_verdictOnCodes (l : Launch) (D : va_G) (cI cL cO : ClassId) (k0 : Nat) (k1 : Nat) (dd : Fn) (h0 : Nat) (q1 : Nat) (q2 : Nat) (q3 : Nat) (q4 : Nat) (q5 : Nat) (o : Fn) (f : Fn) (ee : Fn) (t : Fn) (b : Fn) (ic : Int32) (bc : Int32) (sa : Int32) (gn : Int32) (fr : va_W) : CMi l y_K_verdictOnCodes w_K_verdictOnCodes ({ frames := 3, cells := 0, slots := 0, locals := 65 }) D cI cL cO [.ref k0, .ref h0] ((wK k0 k1) ++ ((wI3 cI k1 dd) ++ ((wB cI h0 q1 q2 q3 q4 q5 o f ee t b ic bc sa gn) ++ fr))) (fun (r : Int32) (u : Fn) => r = (vcF b bc).1 ∧ u = (vcF b bc).2) (fun u : Fn => ((wK k0 k1) ++ ((wI3 cI k1 u) ++ ((wB cI h0 q1 q2 q3 q4 q5 o f ee t b ic bc sa gn) ++ fr)))) 0 0 := by
  refine ofMi (cc := b_K_verdictOnCodes) (maxL := 6) (ret := (some .int)) (by decide) rfl (Nat.le_of_ble_eq_true rfl) ?_
  intro p e s m below meth c A ls H Q hQ hx hb hr hlocks hin hts hown hml hP hK hD hS hA hl
  have hl : lv_has ls 6 [(0, .ref k0), (1, .ref h0)] := hl
  have hown : s.vm.findClass R_K = some m.cls := hown
  have ht : ∀ w ∈ BIG, w.before _ s = true := fun w h => hts w (List.mem_cons_of_mem _ h)
  refine lv_aload_n hx hb d_K_verdictOnCodes_0 rfl (lv_at hl 0 rfl) ?_
  refine va_get (ci := 1) (v := .ref k1) (C := R_K) (T := T_K) (N := 1) hx hb ht in_K hown hK.1 hP 0 rfl rfl 0 (by decide) (ht _ k_fl_K_9) (fun _ h9 => h9) rfl d_K_verdictOnCodes_1 ?_
  refine lv_iconst (v := (-1)) hx hb d_K_verdictOnCodes_4 (by decide) ?_
  have hP := P_sw hP
  have hD := D_sw hD
  refine goMv (va_runS (As := [.ref k1, .int (-1)]) (rest := []) ⟨hx, hb, hml, hown, hts⟩ (c_Ar_fill l D cI cL cO k1 dd ((wK k0 k1) ++ ((wB cI h0 q1 q2 q3 q4 q5 o f ee t b ic bc sa gn) ++ fr)) (-1) H.size) (va_cwS 2 hts (gBIG (m3 k_ml_K_22 k_st_Ar_fill k_ini_Ar) k_co_Ar_fill) rfl rfl rfl (by decide +kernel) ⟨Nat.le_of_ble_eq_true rfl, Nat.le_of_ble_eq_true rfl⟩) ⟨PM.bl, PM.pre hP hD hK⟩ rfl rfl hl.1 rfl (lv_room (Nat.le_of_ble_eq_true rfl)) d_K_verdictOnCodes_5 ⟨Nat.le_of_ble_eq_true rfl, Nat.le_of_ble_eq_true rfl⟩) hD hS hA (fun u H locs hw hP hD hS => ?_)
  obtain ⟨f_5, rfl⟩ : ∃ z, z = u := ⟨_, rfl⟩
  have e_5 : f_5 = fun _ => (-1) := hw
  have hP : va_P D vwCl ((wI3 cI k1 f_5) ++ ((wK k0 k1) ++ ((wB cI h0 q1 q2 q3 q4 q5 o f ee t b ic bc sa gn) ++ fr))) H := hP
  have hD : va_D A ((wI3 cI k1 f_5) ++ ((wK k0 k1) ++ ((wB cI h0 q1 q2 q3 q4 q5 o f ee t b ic bc sa gn) ++ fr))) := hD
  have hP := P_sw hP
  have hD := D_sw hD
  have hP : va_P D vwCl ((wK k0 k1) ++ ((wI3 cI k1 f_5) ++ ((wB cI h0 q1 q2 q3 q4 q5 o f ee t b ic bc sa gn) ++ fr))) H := hP
  have hD : va_D A ((wK k0 k1) ++ ((wI3 cI k1 f_5) ++ ((wB cI h0 q1 q2 q3 q4 q5 o f ee t b ic bc sa gn) ++ fr))) := hD
  refine lv_iconst (v := 0) hx hb d_K_verdictOnCodes_8 (by decide) ?_
  refine lv_istore_n (lv' := [(2, .int 0), (0, .ref k0), (1, .ref h0)]) hx hb d_K_verdictOnCodes_9 rfl hl (by decide) rfl (fun ls hl => ?_)
  refine lv_iconst (v := 0) hx hb d_K_verdictOnCodes_10 (by decide) ?_
  refine lv_istore_n (lv' := [(3, .int 0), (2, .int 0), (0, .ref k0), (1, .ref h0)]) hx hb d_K_verdictOnCodes_11 rfl hl (by decide) rfl (fun ls hl => ?_)
  have lp : ∀ (n : Nat) (dp : Int32) (at1 : Int32) (d1 : Fn) (H : Heap) (locs : List Loc) (ls : Array Slot), (305 ≤ at1.toInt + (n : Int)) → (0 ≤ at1.toInt ∧ at1.toInt ≤ 304) → (vcL b bc n at1 dp d1 = vcF b bc) → va_P D vwCl ((wK k0 k1) ++ ((wI3 cI k1 d1) ++ ((wB cI h0 q1 q2 q3 q4 q5 o f ee t b ic bc sa gn) ++ fr))) H → va_D A ((wK k0 k1) ++ ((wI3 cI k1 d1) ++ ((wB cI h0 q1 q2 q3 q4 q5 o f ee t b ic bc sa gn) ++ fr))) → va_S A s.heap H locs → lv_has ls 6 [(0, .ref k0), (1, .ref h0), (2, .int dp), (3, .int at1)] → W p l e ({ frames := 3, cells := 0, slots := 0, locals := 65 } : Room) s m ([.ref k0, .ref h0] : List Value).toArray below meth c H locs 0 0 Q (F0 m 12 ls []) := by
    intro n
    induction n with
    | zero =>
      intro dp at1 d1 H locs ls hn hi hF hP hD hS hl
      exact absurd hn (by omega)
    | succ n ih =>
      intro dp at1 d1 H locs ls hn hi hF hP hD hS hl
      refine lv_iload_n hx hb d_K_verdictOnCodes_12 rfl (lv_at hl 3 rfl) ?_
      refine lv_aload_n hx hb d_K_verdictOnCodes_13 rfl (lv_at hl 1 rfl) ?_
      refine va_getN (ci := 0) (v := .int bc) (C := R_B) (T := T_B) (N := 9) hx hb ht in_B hown hK.1 hP 2 rfl rfl 6 (by decide) (va_Nw.use rfl (hK.2 _ n_fl_K_28)) (fun _ h9 => h9) rfl d_K_verdictOnCodes_14 ?_
      refine lv_icmp_ge (tgt := 125) hx hb d_K_verdictOnCodes_17 (by decide) (fun c_17 => ?_) (fun c_17 => ?_)
      · refine lv_aload_n hx hb d_K_verdictOnCodes_125 rfl (lv_at hl 1 rfl) ?_
        refine va_getN (ci := 0) (v := .int bc) (C := R_B) (T := T_B) (N := 9) hx hb ht in_B hown hK.1 hP 2 rfl rfl 6 (by decide) (va_Nw.use rfl (hK.2 _ n_fl_K_28)) (fun _ h9 => h9) rfl d_K_verdictOnCodes_126 ?_
        refine goRi (va_runS (As := [.int bc]) (rest := []) ⟨hx, hb, hml, hown, hts⟩ (c_K_wrongAt l D cI cL cO bc) (cwS 1 hts (gBIG (m3 k_ml_K_48 k_st_K_wrongAt k_ini_K) k_co_K_wrongAt) rfl rfl rfl (by decide +kernel) ⟨Nat.le_of_ble_eq_true rfl, Nat.le_of_ble_eq_true rfl⟩) ⟨PR.bl, PR.pre P_nil hK⟩ rfl rfl hl.1 rfl (lv_room (Nat.le_of_ble_eq_true rfl)) d_K_verdictOnCodes_129 ⟨Nat.le_of_ble_eq_true rfl, Nat.le_of_ble_eq_true rfl⟩) ?_
        rw [hQ]; exact retMi (w1 := fun u : Fn => ((wK k0 k1) ++ ((wI3 cI k1 u) ++ ((wB cI h0 q1 q2 q3 q4 q5 o f ee t b ic bc sa gn) ++ fr)))) d1 hx hb hr hlocks hP hD hS ⟨(by rw [← hF]; first | (simp only [vcL, if_pos c_17]; done) | simp [vcL, c_17]), (by rw [← hF]; first | (simp only [vcL, if_pos c_17]; done) | simp [vcL, c_17])⟩ d_K_verdictOnCodes_132
      · refine lv_iload_n hx hb d_K_verdictOnCodes_20 rfl (lv_at hl 3 rfl) ?_
        refine lv_sipush (v := 300) hx hb d_K_verdictOnCodes_21 (by decide) ?_
        refine lv_icmp_ge (tgt := 125) hx hb d_K_verdictOnCodes_24 (by decide) (fun c_24 => ?_) (fun c_24 => ?_)
        · refine lv_aload_n hx hb d_K_verdictOnCodes_125 rfl (lv_at hl 1 rfl) ?_
          refine va_getN (ci := 0) (v := .int bc) (C := R_B) (T := T_B) (N := 9) hx hb ht in_B hown hK.1 hP 2 rfl rfl 6 (by decide) (va_Nw.use rfl (hK.2 _ n_fl_K_28)) (fun _ h9 => h9) rfl d_K_verdictOnCodes_126 ?_
          refine goRi (va_runS (As := [.int bc]) (rest := []) ⟨hx, hb, hml, hown, hts⟩ (c_K_wrongAt l D cI cL cO bc) (cwS 1 hts (gBIG (m3 k_ml_K_48 k_st_K_wrongAt k_ini_K) k_co_K_wrongAt) rfl rfl rfl (by decide +kernel) ⟨Nat.le_of_ble_eq_true rfl, Nat.le_of_ble_eq_true rfl⟩) ⟨PR.bl, PR.pre P_nil hK⟩ rfl rfl hl.1 rfl (lv_room (Nat.le_of_ble_eq_true rfl)) d_K_verdictOnCodes_129 ⟨Nat.le_of_ble_eq_true rfl, Nat.le_of_ble_eq_true rfl⟩) ?_
          rw [hQ]; exact retMi (w1 := fun u : Fn => ((wK k0 k1) ++ ((wI3 cI k1 u) ++ ((wB cI h0 q1 q2 q3 q4 q5 o f ee t b ic bc sa gn) ++ fr)))) d1 hx hb hr hlocks hP hD hS ⟨(by rw [← hF]; first | (simp only [vcL, if_neg c_17, if_pos c_24]; done) | simp [vcL, c_17, c_24]), (by rw [← hF]; first | (simp only [vcL, if_neg c_17, if_pos c_24]; done) | simp [vcL, c_17, c_24])⟩ d_K_verdictOnCodes_132
        · refine lv_aload_n hx hb d_K_verdictOnCodes_27 rfl (lv_at hl 1 rfl) ?_
          refine lv_iload_n hx hb d_K_verdictOnCodes_28 rfl (lv_at hl 3 rfl) ?_
          refine goRi (va_runVN (As := [.int at1]) (rest := []) ⟨hx, hb, hml, hown, hts⟩ (c_B_read l D cI cL cO h0 q1 q2 q3 q4 q5 o f ee t b ic bc sa gn at1) ⟨va_cnB 1 hts (gB0 k_co_B_read) rfl rfl rfl (hK.2 _ n_ml_K_34) (ht _ k_ini_B) (by decide +kernel) ⟨Nat.le_of_ble_eq_true rfl, Nat.le_of_ble_eq_true rfl⟩, ht _ k_im_B_read, ht _ k_sel_B_read⟩ ⟨PR.bl, va_recv hK.1 ((P_app.mp (P_app.mp (P_app.mp hP).2).2).1) (ci := 0) (q0 := 0) rfl rfl, PR.pre ((P_app.mp (P_app.mp (P_app.mp hP).2).2).1) hK⟩ rfl rfl hl.1 rfl (lv_room (Nat.le_of_ble_eq_true rfl)) d_K_verdictOnCodes_29 ⟨Nat.le_of_ble_eq_true rfl, Nat.le_of_ble_eq_true rfl⟩) ?_
          refine lv_istore (lv' := [(4, .int (rdF b bc at1)), (0, .ref k0), (1, .ref h0), (2, .int dp), (3, .int at1)]) hx hb d_K_verdictOnCodes_32 hl (by decide) rfl (fun ls hl => ?_)
          refine lv_iload hx hb d_K_verdictOnCodes_34 (lv_at hl 0 rfl) ?_
          refine goRi (va_runSN (As := [.int (rdF b bc at1)]) (rest := []) ⟨hx, hb, hml, hown, hts⟩ (c_M_lengthOf l D cI cL cO (rdF b bc at1)) ⟨va_cnB 1 hts (gB0 k_co_M_lengthOf) rfl rfl rfl (hK.2 _ n_ml_K_38) (ht _ k_ini_M) (by decide +kernel) ⟨Nat.le_of_ble_eq_true rfl, Nat.le_of_ble_eq_true rfl⟩, ht _ k_st_M_lengthOf, trivial⟩ ⟨PR.bl, PR.pre P_nil hK⟩ rfl rfl hl.1 rfl (lv_room (Nat.le_of_ble_eq_true rfl)) d_K_verdictOnCodes_36 ⟨Nat.le_of_ble_eq_true rfl, Nat.le_of_ble_eq_true rfl⟩) ?_
          refine lv_istore (lv' := [(5, .int (lenOf (rdF b bc at1))), (4, .int (rdF b bc at1)), (0, .ref k0), (1, .ref h0), (2, .int dp), (3, .int at1)]) hx hb d_K_verdictOnCodes_39 hl (by decide) rfl (fun ls hl => ?_)
          refine lv_iload hx hb d_K_verdictOnCodes_41 (lv_at hl 0 rfl) ?_
          refine lv_iconst (v := 1) hx hb d_K_verdictOnCodes_43 (by decide) ?_
          refine lv_icmp_lt (tgt := 66) hx hb d_K_verdictOnCodes_44 (by decide) (fun c_44 => ?_) (fun c_44 => ?_)
          · refine lv_iload_n hx hb d_K_verdictOnCodes_66 rfl (lv_at hl 5 rfl) ?_
            refine goRi (va_runS (As := [.int at1]) (rest := []) ⟨hx, hb, hml, hown, hts⟩ (c_K_wrongAt l D cI cL cO at1) (cwS 1 hts (gBIG (m3 k_ml_K_48 k_st_K_wrongAt k_ini_K) k_co_K_wrongAt) rfl rfl rfl (by decide +kernel) ⟨Nat.le_of_ble_eq_true rfl, Nat.le_of_ble_eq_true rfl⟩) ⟨PR.bl, PR.pre P_nil hK⟩ rfl rfl hl.1 rfl (lv_room (Nat.le_of_ble_eq_true rfl)) d_K_verdictOnCodes_67 ⟨Nat.le_of_ble_eq_true rfl, Nat.le_of_ble_eq_true rfl⟩) ?_
            rw [hQ]; exact retMi (w1 := fun u : Fn => ((wK k0 k1) ++ ((wI3 cI k1 u) ++ ((wB cI h0 q1 q2 q3 q4 q5 o f ee t b ic bc sa gn) ++ fr)))) d1 hx hb hr hlocks hP hD hS ⟨(by rw [← hF]; first | (simp only [vcL, if_neg c_17, if_neg c_24, if_pos c_44]; done) | simp [vcL, c_17, c_24, c_44]), (by rw [← hF]; first | (simp only [vcL, if_neg c_17, if_neg c_24, if_pos c_44]; done) | simp [vcL, c_17, c_24, c_44])⟩ d_K_verdictOnCodes_70
          · refine lv_aload_n hx hb d_K_verdictOnCodes_47 rfl (lv_at hl 3 rfl) ?_
            refine lv_iload_n hx hb d_K_verdictOnCodes_48 rfl (lv_at hl 5 rfl) ?_
            refine lv_iload hx hb d_K_verdictOnCodes_49 (lv_at hl 1 rfl) ?_
            refine goRi (va_runS (As := [.ref h0, .int at1, .int (rdF b bc at1)]) (rest := []) ⟨hx, hb, hml, hown, hts⟩ (c_K_standsWhole l D cI cL cO h0 q1 q2 q3 q4 q5 o f ee t b ic bc sa gn at1 (rdF b bc at1)) (cwS 3 hts (gBIG (m3 k_ml_K_41 k_st_K_standsWhole k_ini_K) k_co_K_standsWhole) rfl rfl rfl (by decide +kernel) ⟨Nat.le_of_ble_eq_true rfl, Nat.le_of_ble_eq_true rfl⟩) ⟨PR.bl, PR.pre ((P_app.mp (P_app.mp (P_app.mp hP).2).2).1) hK⟩ rfl rfl hl.1 rfl (lv_room (Nat.le_of_ble_eq_true rfl)) d_K_verdictOnCodes_51 ⟨Nat.le_of_ble_eq_true rfl, Nat.le_of_ble_eq_true rfl⟩) ?_
            refine lv_if_eq (tgt := 66) hx hb d_K_verdictOnCodes_54 (by decide) (fun c_54 => ?_) (fun c_54 => ?_)
            · refine lv_iload_n hx hb d_K_verdictOnCodes_66 rfl (lv_at hl 5 rfl) ?_
              refine goRi (va_runS (As := [.int at1]) (rest := []) ⟨hx, hb, hml, hown, hts⟩ (c_K_wrongAt l D cI cL cO at1) (cwS 1 hts (gBIG (m3 k_ml_K_48 k_st_K_wrongAt k_ini_K) k_co_K_wrongAt) rfl rfl rfl (by decide +kernel) ⟨Nat.le_of_ble_eq_true rfl, Nat.le_of_ble_eq_true rfl⟩) ⟨PR.bl, PR.pre P_nil hK⟩ rfl rfl hl.1 rfl (lv_room (Nat.le_of_ble_eq_true rfl)) d_K_verdictOnCodes_67 ⟨Nat.le_of_ble_eq_true rfl, Nat.le_of_ble_eq_true rfl⟩) ?_
              rw [hQ]; exact retMi (w1 := fun u : Fn => ((wK k0 k1) ++ ((wI3 cI k1 u) ++ ((wB cI h0 q1 q2 q3 q4 q5 o f ee t b ic bc sa gn) ++ fr)))) d1 hx hb hr hlocks hP hD hS ⟨(by rw [← hF]; first | (simp only [vcL, if_neg c_17, if_neg c_24, if_neg c_44, if_pos c_54]; done) | simp [vcL, c_17, c_24, c_44, c_54]), (by rw [← hF]; first | (simp only [vcL, if_neg c_17, if_neg c_24, if_neg c_44, if_pos c_54]; done) | simp [vcL, c_17, c_24, c_44, c_54])⟩ d_K_verdictOnCodes_70
            · refine lv_iload_n hx hb d_K_verdictOnCodes_57 rfl (lv_at hl 4 rfl) ?_
              refine lv_iload hx hb d_K_verdictOnCodes_58 (lv_at hl 1 rfl) ?_
              refine goRi (va_runS (As := [.int (rdF b bc at1)]) (rest := [.int dp]) ⟨hx, hb, hml, hown, hts⟩ (c_K_takenBy l D cI cL cO (rdF b bc at1)) (cwS 1 hts (gBIG (m3 k_ml_K_45 k_st_K_takenBy k_ini_K) k_co_K_takenBy) rfl rfl rfl (by decide +kernel) ⟨Nat.le_of_ble_eq_true rfl, Nat.le_of_ble_eq_true rfl⟩) ⟨PR.bl, PR.pre P_nil hK⟩ rfl rfl hl.1 rfl (lv_room (Nat.le_of_ble_eq_true rfl)) d_K_verdictOnCodes_60 ⟨Nat.le_of_ble_eq_true rfl, Nat.le_of_ble_eq_true rfl⟩) ?_
              refine lv_icmp_ge (tgt := 71) hx hb d_K_verdictOnCodes_63 (by decide) (fun c_63 => ?_) (fun c_63 => ?_)
              · refine lv_aload_n hx hb d_K_verdictOnCodes_71 rfl (lv_at hl 2 rfl) ?_
                refine va_get (ci := 1) (v := .ref k1) (C := R_K) (T := T_K) (N := 1) hx hb ht in_K hown hK.1 hP 0 rfl rfl 0 (by decide) (ht _ k_fl_K_9) (fun _ h9 => h9) rfl d_K_verdictOnCodes_72 ?_
                refine lv_iload_n hx hb d_K_verdictOnCodes_75 rfl (lv_at hl 5 rfl) ?_
                refine lv_iload_n hx hb d_K_verdictOnCodes_76 rfl (lv_at hl 4 rfl) ?_
                refine va_iast hx hb hK.1 hP hD hS 1 0 rfl rfl (in_of (N := 300) (by decide) (nn_of hi.1) c_24) d_K_verdictOnCodes_77 (fun H locs hP hD hS => ?_)
                have hP : va_P D vwCl ((wK k0 k1) ++ ((wI3 cI k1 (upd d1 at1.toNatClampNeg dp)) ++ ((wB cI h0 q1 q2 q3 q4 q5 o f ee t b ic bc sa gn) ++ fr))) H := hP
                have hD : va_D A ((wK k0 k1) ++ ((wI3 cI k1 (upd d1 at1.toNatClampNeg dp)) ++ ((wB cI h0 q1 q2 q3 q4 q5 o f ee t b ic bc sa gn) ++ fr))) := hD
                refine lv_iload hx hb d_K_verdictOnCodes_78 (lv_at hl 1 rfl) ?_
                refine lv_bipush (v := 10) hx hb d_K_verdictOnCodes_80 (by decide) ?_
                refine lv_icmp_ne (tgt := 93) hx hb d_K_verdictOnCodes_82 (by decide) (fun c_82 => ?_) (fun c_82 => ?_)
                · refine lv_iload_n hx hb d_K_verdictOnCodes_93 rfl (lv_at hl 4 rfl) ?_
                  refine lv_iload hx hb d_K_verdictOnCodes_94 (lv_at hl 1 rfl) ?_
                  refine goRi (va_runS (As := [.int (rdF b bc at1)]) (rest := [.int dp]) ⟨hx, hb, hml, hown, hts⟩ (c_K_takenBy l D cI cL cO (rdF b bc at1)) (cwS 1 hts (gBIG (m3 k_ml_K_45 k_st_K_takenBy k_ini_K) k_co_K_takenBy) rfl rfl rfl (by decide +kernel) ⟨Nat.le_of_ble_eq_true rfl, Nat.le_of_ble_eq_true rfl⟩) ⟨PR.bl, PR.pre P_nil hK⟩ rfl rfl hl.1 rfl (lv_room (Nat.le_of_ble_eq_true rfl)) d_K_verdictOnCodes_96 ⟨Nat.le_of_ble_eq_true rfl, Nat.le_of_ble_eq_true rfl⟩) ?_
                  refine lv_isub hx hb d_K_verdictOnCodes_99 ?_
                  refine lv_iload hx hb d_K_verdictOnCodes_100 (lv_at hl 1 rfl) ?_
                  refine goRi (va_runS (As := [.int (rdF b bc at1)]) (rest := [.int (dp - (takenF (rdF b bc at1)))]) ⟨hx, hb, hml, hown, hts⟩ (c_K_addedBy l D cI cL cO (rdF b bc at1)) (cwS 1 hts (gBIG (m3 k_ml_K_55 k_st_K_addedBy k_ini_K) k_co_K_addedBy) rfl rfl rfl (by decide +kernel) ⟨Nat.le_of_ble_eq_true rfl, Nat.le_of_ble_eq_true rfl⟩) ⟨PR.bl, PR.pre P_nil hK⟩ rfl rfl hl.1 rfl (lv_room (Nat.le_of_ble_eq_true rfl)) d_K_verdictOnCodes_102 ⟨Nat.le_of_ble_eq_true rfl, Nat.le_of_ble_eq_true rfl⟩) ?_
                  refine lv_iadd hx hb d_K_verdictOnCodes_105 ?_
                  refine lv_istore_n (lv' := [(2, .int ((dp - (takenF (rdF b bc at1))) + (addedF (rdF b bc at1)))), (5, .int (lenOf (rdF b bc at1))), (4, .int (rdF b bc at1)), (0, .ref k0), (1, .ref h0), (3, .int at1)]) hx hb d_K_verdictOnCodes_106 rfl hl (by decide) rfl (fun ls hl => ?_)
                  refine lv_iload_n hx hb d_K_verdictOnCodes_107 rfl (lv_at hl 0 rfl) ?_
                  refine lv_iconst (v := 4) hx hb d_K_verdictOnCodes_108 (by decide) ?_
                  refine lv_icmp_le (tgt := 117) hx hb d_K_verdictOnCodes_109 (by decide) (fun c_109 => ?_) (fun c_109 => ?_)
                  · refine lv_iload_n hx hb d_K_verdictOnCodes_117 rfl (lv_at hl 5 rfl) ?_
                    refine lv_iload hx hb d_K_verdictOnCodes_118 (lv_at hl 1 rfl) ?_
                    refine lv_iadd hx hb d_K_verdictOnCodes_120 ?_
                    refine lv_istore_n (lv' := [(3, .int (at1 + (lenOf (rdF b bc at1)))), (2, .int ((dp - (takenF (rdF b bc at1))) + (addedF (rdF b bc at1)))), (5, .int (lenOf (rdF b bc at1))), (4, .int (rdF b bc at1)), (0, .ref k0), (1, .ref h0)]) hx hb d_K_verdictOnCodes_121 rfl hl (by decide) rfl (fun ls hl => ?_)
                    refine lv_goto (tgt := 12) hx hb d_K_verdictOnCodes_122 (by decide) ?_
                    exact ih ((dp - (takenF (rdF b bc at1))) + (addedF (rdF b bc at1))) (at1 + (lenOf (rdF b bc at1))) (upd d1 at1.toNatClampNeg dp) _ _ ls (vc_n hn hi.1 c_24 c_44) (vc_i hi.1 c_24) (by rw [← hF]; first | (simp only [vcL, if_neg c_17, if_neg c_24, if_neg c_44, if_neg c_54, if_pos c_63, if_neg c_82, if_pos c_109]; done) | simp [vcL, c_17, c_24, c_44, c_54, c_63, c_82, c_109]) hP hD hS (lv_sub hl [4, 5, 1, 0] rfl)
                  · refine lv_iload_n hx hb d_K_verdictOnCodes_112 rfl (lv_at hl 5 rfl) ?_
                    refine goRi (va_runS (As := [.int at1]) (rest := []) ⟨hx, hb, hml, hown, hts⟩ (c_K_wrongAt l D cI cL cO at1) (cwS 1 hts (gBIG (m3 k_ml_K_48 k_st_K_wrongAt k_ini_K) k_co_K_wrongAt) rfl rfl rfl (by decide +kernel) ⟨Nat.le_of_ble_eq_true rfl, Nat.le_of_ble_eq_true rfl⟩) ⟨PR.bl, PR.pre P_nil hK⟩ rfl rfl hl.1 rfl (lv_room (Nat.le_of_ble_eq_true rfl)) d_K_verdictOnCodes_113 ⟨Nat.le_of_ble_eq_true rfl, Nat.le_of_ble_eq_true rfl⟩) ?_
                    rw [hQ]; exact retMi (w1 := fun u : Fn => ((wK k0 k1) ++ ((wI3 cI k1 u) ++ ((wB cI h0 q1 q2 q3 q4 q5 o f ee t b ic bc sa gn) ++ fr)))) (upd d1 at1.toNatClampNeg dp) hx hb hr hlocks hP hD hS ⟨(by rw [← hF]; first | (simp only [vcL, if_neg c_17, if_neg c_24, if_neg c_44, if_neg c_54, if_pos c_63, if_neg c_82, if_neg c_109]; done) | simp [vcL, c_17, c_24, c_44, c_54, c_63, c_82, c_109]), (by rw [← hF]; first | (simp only [vcL, if_neg c_17, if_neg c_24, if_neg c_44, if_neg c_54, if_pos c_63, if_neg c_82, if_neg c_109]; done) | simp [vcL, c_17, c_24, c_44, c_54, c_63, c_82, c_109])⟩ d_K_verdictOnCodes_116
                · refine lv_aload_n hx hb d_K_verdictOnCodes_85 rfl (lv_at hl 2 rfl) ?_
                  refine lv_aload_n hx hb d_K_verdictOnCodes_86 rfl (lv_at hl 3 rfl) ?_
                  refine lv_iload_n hx hb d_K_verdictOnCodes_87 rfl (lv_at hl 5 rfl) ?_
                  refine lv_iload_n hx hb d_K_verdictOnCodes_88 rfl (lv_at hl 4 rfl) ?_
                  refine goRi (va_runV (As := [.ref h0, .int at1, .int dp]) (rest := []) ⟨hx, hb, hml, hown, hts⟩ (c_K_verdictOnEnd l D cI cL cO k0 k1 h0 q1 q2 q3 q4 q5 o f ee t b ic bc sa gn at1 dp) (cwV 3 hts (gBIG (m4 k_ml_K_51 k_im_K_verdictOnEnd k_sel_K_verdictOnEnd k_ini_K) k_co_K_verdictOnEnd) rfl rfl rfl (by decide +kernel) ⟨Nat.le_of_ble_eq_true rfl, Nat.le_of_ble_eq_true rfl⟩) ⟨PR.bl, va_recv hK.1 (P_app.mpr ⟨(P_app.mp hP).1, (P_app.mp (P_app.mp (P_app.mp hP).2).2).1⟩) (ci := 1) (q0 := 0) rfl rfl, PR.pre (P_app.mpr ⟨(P_app.mp hP).1, (P_app.mp (P_app.mp (P_app.mp hP).2).2).1⟩) hK⟩ rfl rfl hl.1 rfl (lv_room (Nat.le_of_ble_eq_true rfl)) d_K_verdictOnCodes_89 ⟨Nat.le_of_ble_eq_true rfl, Nat.le_of_ble_eq_true rfl⟩) ?_
                  rw [hQ]; exact retMi (w1 := fun u : Fn => ((wK k0 k1) ++ ((wI3 cI k1 u) ++ ((wB cI h0 q1 q2 q3 q4 q5 o f ee t b ic bc sa gn) ++ fr)))) (upd d1 at1.toNatClampNeg dp) hx hb hr hlocks hP hD hS ⟨(by rw [← hF]; first | (simp only [vcL, if_neg c_17, if_neg c_24, if_neg c_44, if_neg c_54, if_pos c_63, if_pos c_82]; done) | simp [vcL, c_17, c_24, c_44, c_54, c_63, c_82]), (by rw [← hF]; first | (simp only [vcL, if_neg c_17, if_neg c_24, if_neg c_44, if_neg c_54, if_pos c_63, if_pos c_82]; done) | simp [vcL, c_17, c_24, c_44, c_54, c_63, c_82])⟩ d_K_verdictOnCodes_92
              · refine lv_iload_n hx hb d_K_verdictOnCodes_66 rfl (lv_at hl 5 rfl) ?_
                refine goRi (va_runS (As := [.int at1]) (rest := []) ⟨hx, hb, hml, hown, hts⟩ (c_K_wrongAt l D cI cL cO at1) (cwS 1 hts (gBIG (m3 k_ml_K_48 k_st_K_wrongAt k_ini_K) k_co_K_wrongAt) rfl rfl rfl (by decide +kernel) ⟨Nat.le_of_ble_eq_true rfl, Nat.le_of_ble_eq_true rfl⟩) ⟨PR.bl, PR.pre P_nil hK⟩ rfl rfl hl.1 rfl (lv_room (Nat.le_of_ble_eq_true rfl)) d_K_verdictOnCodes_67 ⟨Nat.le_of_ble_eq_true rfl, Nat.le_of_ble_eq_true rfl⟩) ?_
                rw [hQ]; exact retMi (w1 := fun u : Fn => ((wK k0 k1) ++ ((wI3 cI k1 u) ++ ((wB cI h0 q1 q2 q3 q4 q5 o f ee t b ic bc sa gn) ++ fr)))) d1 hx hb hr hlocks hP hD hS ⟨(by rw [← hF]; first | (simp only [vcL, if_neg c_17, if_neg c_24, if_neg c_44, if_neg c_54, if_neg c_63]; done) | simp [vcL, c_17, c_24, c_44, c_54, c_63]), (by rw [← hF]; first | (simp only [vcL, if_neg c_17, if_neg c_24, if_neg c_44, if_neg c_54, if_neg c_63]; done) | simp [vcL, c_17, c_24, c_44, c_54, c_63])⟩ d_K_verdictOnCodes_70
  exact lp 305 0 0 f_5 _ _ ls (by decide) (by decide) (by rw [e_5]; rfl) hP hD hS (lv_sub hl [2, 3, 1, 0] rfl)

abbrev w_K_verdictOn : List Cond := .code y_K_verdictOn b_K_verdictOn 3 (some .int) :: BIG
set_option maxHeartbeats 4000000 in
set_option maxRecDepth 100000 in
theorem c_K_verdictOn (l : Launch) (D : va_G) (cI cL cO : ClassId) (k0 : Nat) (k1 : Nat) (dd : Fn) (h0 : Nat) (q1 : Nat) (q2 : Nat) (q3 : Nat) (q4 : Nat) (q5 : Nat) (o : Fn) (f : Fn) (ee : Fn) (t : Fn) (b : Fn) (ic : Int32) (bc : Int32) (sa : Int32) (gn : Int32) (fr : va_W) : CMi l y_K_verdictOn w_K_verdictOn ({ frames := 4, cells := 0, slots := 0, locals := 90 }) D cI cL cO [.ref k0, .ref h0] ((wK k0 k1) ++ ((wI3 cI k1 dd) ++ ((wB cI h0 q1 q2 q3 q4 q5 o f ee t b ic bc sa gn) ++ fr))) (fun (r : Int32) (u : Fn) => r = vdF b bc ∧ u = (vcF b bc).2) (fun u : Fn => ((wK k0 k1) ++ ((wI3 cI k1 u) ++ ((wB cI h0 q1 q2 q3 q4 q5 o f ee t b ic bc sa gn) ++ fr)))) 0 0 := by
  refine ofMi (cc := b_K_verdictOn) (maxL := 3) (ret := (some .int)) (by decide) rfl (Nat.le_of_ble_eq_true rfl) ?_
  intro p e s m below meth c A ls H Q hQ hx hb hr hlocks hin hts hown hml hP hK hD hS hA hl
  have hl : lv_has ls 3 [(0, .ref k0), (1, .ref h0)] := hl
  have hown : s.vm.findClass R_K = some m.cls := hown
  have ht : ∀ w ∈ BIG, w.before _ s = true := fun w h => hts w (List.mem_cons_of_mem _ h)
  refine lv_aload_n hx hb d_K_verdictOn_0 rfl (lv_at hl 0 rfl) ?_
  refine lv_aload_n hx hb d_K_verdictOn_1 rfl (lv_at hl 1 rfl) ?_
  refine goMi (va_runV (As := [.ref h0]) (rest := []) ⟨hx, hb, hml, hown, hts⟩ (c_K_verdictOnCodes l D cI cL cO k0 k1 dd h0 q1 q2 q3 q4 q5 o f ee t b ic bc sa gn fr H.size) (cwV 1 hts (gBIG (m4 k_ml_K_15 k_im_K_verdictOnCodes k_sel_K_verdictOnCodes k_ini_K) k_co_K_verdictOnCodes) rfl rfl rfl (by decide +kernel) ⟨Nat.le_of_ble_eq_true rfl, Nat.le_of_ble_eq_true rfl⟩) ⟨PM.bl, va_recv hK.1 hP (ci := 1) (q0 := 0) rfl rfl, PM.pre hP hD hK⟩ rfl rfl hl.1 rfl (lv_room (Nat.le_of_ble_eq_true rfl)) d_K_verdictOn_2 ⟨Nat.le_of_ble_eq_true rfl, Nat.le_of_ble_eq_true rfl⟩) hD hS hA (fun r_2 u H locs hw hP hD hS => ?_)
  obtain ⟨dd_2, rfl⟩ : ∃ z, z = u := ⟨_, rfl⟩
  have e_2 : r_2 = (vcF b bc).1 ∧ dd_2 = (vcF b bc).2 := hw
  have hP : va_P D vwCl ((wK k0 k1) ++ ((wI3 cI k1 dd_2) ++ ((wB cI h0 q1 q2 q3 q4 q5 o f ee t b ic bc sa gn) ++ fr))) H := hP
  have hD : va_D A ((wK k0 k1) ++ ((wI3 cI k1 dd_2) ++ ((wB cI h0 q1 q2 q3 q4 q5 o f ee t b ic bc sa gn) ++ fr))) := hD
  refine lv_istore_n (lv' := [(2, .int r_2), (0, .ref k0), (1, .ref h0)]) hx hb d_K_verdictOn_5 rfl hl (by decide) rfl (fun ls hl => ?_)
  refine lv_iload_n hx hb d_K_verdictOn_6 rfl (lv_at hl 0 rfl) ?_
  refine lv_if_ne (tgt := 18) hx hb d_K_verdictOn_7 (by decide) (fun c_7 => ?_) (fun c_7 => ?_)
  · refine lv_iload_n hx hb d_K_verdictOn_18 rfl (lv_at hl 0 rfl) ?_
    rw [hQ]; exact retMi (w1 := fun u : Fn => ((wK k0 k1) ++ ((wI3 cI k1 u) ++ ((wB cI h0 q1 q2 q3 q4 q5 o f ee t b ic bc sa gn) ++ fr)))) dd_2 hx hb hr hlocks hP hD hS ⟨by simp [vdF, ← e_2.1, ← e_2.2, c_7], e_2.2⟩ d_K_verdictOn_19
  · refine lv_aload_n hx hb d_K_verdictOn_10 rfl (lv_at hl 1 rfl) ?_
    refine lv_aload_n hx hb d_K_verdictOn_11 rfl (lv_at hl 2 rfl) ?_
    refine goRi (va_runV (As := [.ref h0]) (rest := []) ⟨hx, hb, hml, hown, hts⟩ (c_K_verdictOnBranches l D cI cL cO k0 k1 dd_2 h0 q1 q2 q3 q4 q5 o f ee t b ic bc sa gn) (cwV 1 hts (gBIG (m4 k_ml_K_19 k_im_K_verdictOnBranches k_sel_K_verdictOnBranches k_ini_K) k_co_K_verdictOnBranches) rfl rfl rfl (by decide +kernel) ⟨Nat.le_of_ble_eq_true rfl, Nat.le_of_ble_eq_true rfl⟩) ⟨PR.bl, va_recv hK.1 (P_app.mpr ⟨(P_app.mp hP).1, (P_app.mpr ⟨(P_app.mp (P_app.mp hP).2).1, (P_app.mp (P_app.mp (P_app.mp hP).2).2).1⟩)⟩) (ci := 1) (q0 := 0) rfl rfl, PR.pre (P_app.mpr ⟨(P_app.mp hP).1, (P_app.mpr ⟨(P_app.mp (P_app.mp hP).2).1, (P_app.mp (P_app.mp (P_app.mp hP).2).2).1⟩)⟩) hK⟩ rfl rfl hl.1 rfl (lv_room (Nat.le_of_ble_eq_true rfl)) d_K_verdictOn_12 ⟨Nat.le_of_ble_eq_true rfl, Nat.le_of_ble_eq_true rfl⟩) ?_
    refine lv_goto (tgt := 19) hx hb d_K_verdictOn_15 (by decide) ?_
    rw [hQ]; exact retMi (w1 := fun u : Fn => ((wK k0 k1) ++ ((wI3 cI k1 u) ++ ((wB cI h0 q1 q2 q3 q4 q5 o f ee t b ic bc sa gn) ++ fr)))) dd_2 hx hb hr hlocks hP hD hS ⟨by simp [vdF, ← e_2.1, ← e_2.2, c_7], e_2.2⟩ d_K_verdictOn_19
