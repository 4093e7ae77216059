abbrev w_B_writeBytes : List Cond := .code y_B_writeBytes b_B_writeBytes 2 none :: BIG
set_option maxHeartbeats 4000000 in
set_option maxRecDepth 100000 in
theorem c_B_writeBytes (l : Launch) (D : va_G) (cI cL cO : ClassId) (h0 : Nat) (q1 : Nat) (q2 : Nat) (q3 : Nat) (q4 : Nat) (q5 : Nat) (o : Fn) (f : Fn) (ee : Fn) (t : Fn) (b : Fn) (ic : Int32) (bc : Int32) (sa : Int32) (gn : Int32) (fr : va_W) : CMv l y_B_writeBytes w_B_writeBytes ({ frames := 3, cells := 0, slots := 0, locals := 66 }) D cI cL cO [.ref h0] ((wB cI h0 q1 q2 q3 q4 q5 o f ee t b ic bc sa gn) ++ fr) (fun u : By => u = wrA o f ee t ic b ∧ ¬ u.2 < 0) (fun u : By => ((wB cI h0 q1 q2 q3 q4 q5 o f ee t u.1 ic u.2 sa gn) ++ fr)) 0 0 := by
  refine ofMv (cc := b_B_writeBytes) (maxL := 2) (ret := none) (by decide) rfl (Nat.le_of_ble_eq_true rfl) ?_
  intro p e s m below meth c A ls H Q hQ hx hb hr hlocks hin hts hown hml hP hK hD hS hA hl
  have hl : lv_has ls 2 [(0, .ref h0)] := hl
  have hown : s.vm.findClass R_B = some m.cls := hown
  have ht : ∀ w ∈ BIG, w.before _ s = true := fun w h => hts w (List.mem_cons_of_mem _ h)
  refine lv_aload_n hx hb d_B_writeBytes_0 rfl (lv_at hl 0 rfl) ?_
  refine lv_iconst (v := 0) hx hb d_B_writeBytes_1 (by decide) ?_
  refine va_put (ci := 0) (v := .int 0) (ty := .int) (C := R_B) (T := T_B) (N := 9) hx hb ht in_B t_B t_B_ok n_B hown hK.1 hP hD hS 0 rfl rfl 6 (by decide) (ht _ k_fl_B_41) (fun _ h9 => h9) rfl (by decide +kernel) rfl rfl (Nat.le_of_ble_eq_true rfl) d_B_writeBytes_2 (fun H locs hP hD hS => ?_)
  have hP : va_P D vwCl ((wB cI h0 q1 q2 q3 q4 q5 o f ee t b ic 0 sa gn) ++ fr) H := hP
  have hD : va_D A ((wB cI h0 q1 q2 q3 q4 q5 o f ee t b ic 0 sa gn) ++ fr) := hD
  refine lv_iconst (v := 0) hx hb d_B_writeBytes_5 (by decide) ?_
  refine lv_istore_n (lv' := [(1, .int 0), (0, .ref h0)]) hx hb d_B_writeBytes_6 rfl hl (by decide) rfl (fun ls hl => ?_)
  have lp : ∀ (n : Nat) (i : Int32) (b1 : Fn) (bc1 : Int32) (H : Heap) (locs : List Loc) (ls : Array Slot), (i.toInt + (n : Int) = 61) → (0 ≤ i.toInt ∧ i.toInt ≤ 60) → (¬ bc1 < 0) → (apF 10 (wrL o f ee t ic n i (b1, bc1)) = wrA o f ee t ic b) → va_P D vwCl ((wB cI h0 q1 q2 q3 q4 q5 o f ee t b1 ic bc1 sa gn) ++ fr) H → va_D A ((wB cI h0 q1 q2 q3 q4 q5 o f ee t b1 ic bc1 sa gn) ++ fr) → va_S A s.heap H locs → lv_has ls 2 [(0, .ref h0), (1, .int i)] → W p l e ({ frames := 3, cells := 0, slots := 0, locals := 66 } : Room) s m ([.ref h0] : List Value).toArray below meth c H locs 0 0 Q (F0 m 7 ls []) := by
    intro n
    induction n with
    | zero =>
      intro i b1 bc1 H locs ls hn hi hbc hF hP hD hS hl
      exact absurd hn (by omega)
    | succ n ih =>
      intro i b1 bc1 H locs ls hn hi hbc hF hP hD hS hl
      refine lv_iload_n hx hb d_B_writeBytes_7 rfl (lv_at hl 1 rfl) ?_
      refine lv_aload_n hx hb d_B_writeBytes_8 rfl (lv_at hl 0 rfl) ?_
      refine va_get (ci := 0) (v := .int ic) (C := R_B) (T := T_B) (N := 9) hx hb ht in_B hown hK.1 hP 0 rfl rfl 5 (by decide) (ht _ k_fl_B_34) (fun _ h9 => h9) rfl d_B_writeBytes_9 ?_
      refine lv_icmp_ge (tgt := 49) hx hb d_B_writeBytes_12 (by decide) (fun c_12 => ?_) (fun c_12 => ?_)
      · refine lv_aload_n hx hb d_B_writeBytes_49 rfl (lv_at hl 0 rfl) ?_
        refine lv_bipush (v := 10) hx hb d_B_writeBytes_50 (by decide) ?_
        refine goMv (va_runV (As := [.int 10]) (rest := []) ⟨hx, hb, hml, hown, hts⟩ (c_B_append l D cI cL cO h0 q1 q2 q3 q4 q5 o f ee t b1 ic bc1 sa gn fr 10 hbc H.size) (cwV 1 hts (gBIG (m4 k_ml_B_55 k_im_B_append k_sel_B_append k_ini_B) k_co_B_append) rfl rfl rfl (by decide +kernel) ⟨Nat.le_of_ble_eq_true rfl, Nat.le_of_ble_eq_true rfl⟩) ⟨PM.bl, va_recv hK.1 hP (ci := 0) (q0 := 0) rfl rfl, PM.pre hP hD hK⟩ rfl rfl hl.1 rfl (lv_room (Nat.le_of_ble_eq_true rfl)) d_B_writeBytes_52 ⟨Nat.le_of_ble_eq_true rfl, Nat.le_of_ble_eq_true rfl⟩) hD hS hA (fun u H locs hw hP hD hS => ?_)
        obtain ⟨b_52, bc_52⟩ := u
        have e_52 : (b_52, bc_52) = apF 10 (b1, bc1) ∧ ¬ bc_52 < 0 := hw
        have hP : va_P D vwCl ((wB cI h0 q1 q2 q3 q4 q5 o f ee t b_52 ic bc_52 sa gn) ++ fr) H := hP
        have hD : va_D A ((wB cI h0 q1 q2 q3 q4 q5 o f ee t b_52 ic bc_52 sa gn) ++ fr) := hD
        rw [hQ]; exact retMv (w1 := fun u : By => ((wB cI h0 q1 q2 q3 q4 q5 o f ee t u.1 ic u.2 sa gn) ++ fr)) (b_52, bc_52) hx hb hr hlocks hP hD hS ⟨by rw [e_52.1, ← hF]; simp [wrL, c_12], e_52.2⟩ d_B_writeBytes_55
      · refine lv_iload_n hx hb d_B_writeBytes_15 rfl (lv_at hl 1 rfl) ?_
        refine lv_bipush (v := 60) hx hb d_B_writeBytes_16 (by decide) ?_
        refine lv_icmp_ge (tgt := 49) hx hb d_B_writeBytes_18 (by decide) (fun c_18 => ?_) (fun c_18 => ?_)
        · refine lv_aload_n hx hb d_B_writeBytes_49 rfl (lv_at hl 0 rfl) ?_
          refine lv_bipush (v := 10) hx hb d_B_writeBytes_50 (by decide) ?_
          refine goMv (va_runV (As := [.int 10]) (rest := []) ⟨hx, hb, hml, hown, hts⟩ (c_B_append l D cI cL cO h0 q1 q2 q3 q4 q5 o f ee t b1 ic bc1 sa gn fr 10 hbc H.size) (cwV 1 hts (gBIG (m4 k_ml_B_55 k_im_B_append k_sel_B_append k_ini_B) k_co_B_append) rfl rfl rfl (by decide +kernel) ⟨Nat.le_of_ble_eq_true rfl, Nat.le_of_ble_eq_true rfl⟩) ⟨PM.bl, va_recv hK.1 hP (ci := 0) (q0 := 0) rfl rfl, PM.pre hP hD hK⟩ rfl rfl hl.1 rfl (lv_room (Nat.le_of_ble_eq_true rfl)) d_B_writeBytes_52 ⟨Nat.le_of_ble_eq_true rfl, Nat.le_of_ble_eq_true rfl⟩) hD hS hA (fun u H locs hw hP hD hS => ?_)
          obtain ⟨b_52, bc_52⟩ := u
          have e_52 : (b_52, bc_52) = apF 10 (b1, bc1) ∧ ¬ bc_52 < 0 := hw
          have hP : va_P D vwCl ((wB cI h0 q1 q2 q3 q4 q5 o f ee t b_52 ic bc_52 sa gn) ++ fr) H := hP
          have hD : va_D A ((wB cI h0 q1 q2 q3 q4 q5 o f ee t b_52 ic bc_52 sa gn) ++ fr) := hD
          rw [hQ]; exact retMv (w1 := fun u : By => ((wB cI h0 q1 q2 q3 q4 q5 o f ee t u.1 ic u.2 sa gn) ++ fr)) (b_52, bc_52) hx hb hr hlocks hP hD hS ⟨by rw [e_52.1, ← hF]; simp [wrL, c_12, c_18], e_52.2⟩ d_B_writeBytes_55
        · refine lv_aload_n hx hb d_B_writeBytes_21 rfl (lv_at hl 0 rfl) ?_
          refine lv_aload_n hx hb d_B_writeBytes_22 rfl (lv_at hl 0 rfl) ?_
          refine va_get (ci := 0) (v := .ref q1) (C := R_B) (T := T_B) (N := 9) hx hb ht in_B hown hK.1 hP 0 rfl rfl 0 (by decide) (ht _ k_fl_B_9) (fun _ h9 => h9) rfl d_B_writeBytes_23 ?_
          refine lv_iload_n hx hb d_B_writeBytes_26 rfl (lv_at hl 1 rfl) ?_
          refine va_iald hx hb hK.1 hP 1 0 rfl rfl (in_of (N := 60) (by decide) (nn_of hi.1) c_18) d_B_writeBytes_27 ?_
          refine lv_aload_n hx hb d_B_writeBytes_28 rfl (lv_at hl 0 rfl) ?_
          refine va_get (ci := 0) (v := .ref q2) (C := R_B) (T := T_B) (N := 9) hx hb ht in_B hown hK.1 hP 0 rfl rfl 1 (by decide) (ht _ k_fl_B_15) (fun _ h9 => h9) rfl d_B_writeBytes_29 ?_
          refine lv_iload_n hx hb d_B_writeBytes_32 rfl (lv_at hl 1 rfl) ?_
          refine va_iald hx hb hK.1 hP 2 0 rfl rfl (in_of (N := 60) (by decide) (nn_of hi.1) c_18) d_B_writeBytes_33 ?_
          refine lv_aload_n hx hb d_B_writeBytes_34 rfl (lv_at hl 0 rfl) ?_
          refine va_get (ci := 0) (v := .ref q3) (C := R_B) (T := T_B) (N := 9) hx hb ht in_B hown hK.1 hP 0 rfl rfl 2 (by decide) (ht _ k_fl_B_18) (fun _ h9 => h9) rfl d_B_writeBytes_35 ?_
          refine lv_iload_n hx hb d_B_writeBytes_38 rfl (lv_at hl 1 rfl) ?_
          refine va_iald hx hb hK.1 hP 3 0 rfl rfl (in_of (N := 60) (by decide) (nn_of hi.1) c_18) d_B_writeBytes_39 ?_
          refine goMv (va_runV (As := [.int (o i.toNatClampNeg), .int (f i.toNatClampNeg), .int (ee i.toNatClampNeg)]) (rest := []) ⟨hx, hb, hml, hown, hts⟩ (c_B_writeInstruction l D cI cL cO h0 q1 q2 q3 q4 q5 o f ee t b1 ic bc1 sa gn fr (o i.toNatClampNeg) (f i.toNatClampNeg) (ee i.toNatClampNeg) hbc H.size) (cwV 3 hts (gBIG (m4 k_ml_B_51 k_im_B_writeInstruction k_sel_B_writeInstruction k_ini_B) k_co_B_writeInstruction) rfl rfl rfl (by decide +kernel) ⟨Nat.le_of_ble_eq_true rfl, Nat.le_of_ble_eq_true rfl⟩) ⟨PM.bl, va_recv hK.1 hP (ci := 0) (q0 := 0) rfl rfl, PM.pre hP hD hK⟩ rfl rfl hl.1 rfl (lv_room (Nat.le_of_ble_eq_true rfl)) d_B_writeBytes_40 ⟨Nat.le_of_ble_eq_true rfl, Nat.le_of_ble_eq_true rfl⟩) hD hS hA (fun u H locs hw hP hD hS => ?_)
          obtain ⟨b_40, bc_40⟩ := u
          have e_40 : (b_40, bc_40) = wrI t ic (o i.toNatClampNeg) (f i.toNatClampNeg) (ee i.toNatClampNeg) (b1, bc1) ∧ ¬ bc_40 < 0 := hw
          have hP : va_P D vwCl ((wB cI h0 q1 q2 q3 q4 q5 o f ee t b_40 ic bc_40 sa gn) ++ fr) H := hP
          have hD : va_D A ((wB cI h0 q1 q2 q3 q4 q5 o f ee t b_40 ic bc_40 sa gn) ++ fr) := hD
          refine lv_iinc (v := i + 1) (lv' := [(1, .int (i + 1)), (0, .ref h0)]) hx hb d_B_writeBytes_43 hl (k := 1) rfl rfl (by decide) rfl (fun ls hl => ?_)
          refine lv_goto (tgt := 7) hx hb d_B_writeBytes_46 (by decide) ?_
          exact ih (i + 1) b_40 bc_40 _ _ ls (by rw [i32_1 (by omega)]; omega) (by rw [i32_1 (by omega)]; have := i_lt c_18; have h60 : (60 : Int32).toInt = 60 := (by decide); omega) e_40.2 (by rw [e_40.1, ← hF]; simp [wrL, c_12, c_18]) hP hD hS (lv_sub hl [1, 0] rfl)
  exact lp 61 0 b 0 _ _ ls (by decide) (by decide) (by decide) rfl hP hD hS (lv_sub hl [1, 0] rfl)

abbrev w_B_becomeRows : List Cond := .code y_B_becomeRows b_B_becomeRows 1 none :: BIG
set_option maxHeartbeats 4000000 in
set_option maxRecDepth 100000 in
theorem c_B_becomeRows (l : Launch) (D : va_G) (cI cL cO : ClassId) (h0 : Nat) (q1 : Nat) (q2 : Nat) (q3 : Nat) (q4 : Nat) (q5 : Nat) (o : Fn) (f : Fn) (ee : Fn) (t : Fn) (b : Fn) (ic : Int32) (bc : Int32) (sa : Int32) (gn : Int32) (fr : va_W) : CMv l y_B_becomeRows w_B_becomeRows ({ frames := 0, cells := 0, slots := 0, locals := 0 }) D cI cL cO [.ref h0] ((wB cI h0 q1 q2 q3 q4 q5 o f ee t b ic bc sa gn) ++ fr) (fun u : Int32 × Int32 × Int32 => u = (0, 0, -1)) (fun u : Int32 × Int32 × Int32 => ((wB cI h0 q1 q2 q3 q4 q5 o f ee t b ic u.1 u.2.1 u.2.2) ++ fr)) 0 0 := by
  refine ofMv (cc := b_B_becomeRows) (maxL := 1) (ret := none) (by decide) rfl (Nat.le_of_ble_eq_true rfl) ?_
  intro p e s m below meth c A ls H Q hQ hx hb hr hlocks hin hts hown hml hP hK hD hS hA hl
  have hl : lv_has ls 1 [(0, .ref h0)] := hl
  have hown : s.vm.findClass R_B = some m.cls := hown
  have ht : ∀ w ∈ BIG, w.before _ s = true := fun w h => hts w (List.mem_cons_of_mem _ h)
  refine lv_aload_n hx hb d_B_becomeRows_0 rfl (lv_at hl 0 rfl) ?_
  refine lv_iconst (v := 0) hx hb d_B_becomeRows_1 (by decide) ?_
  refine va_put (ci := 0) (v := .int 0) (ty := .int) (C := R_B) (T := T_B) (N := 9) hx hb ht in_B t_B t_B_ok n_B hown hK.1 hP hD hS 0 rfl rfl 7 (by decide) (ht _ k_fl_B_27) (fun _ h9 => h9) rfl (by decide +kernel) rfl rfl (Nat.le_of_ble_eq_true rfl) d_B_becomeRows_2 (fun H locs hP hD hS => ?_)
  have hP : va_P D vwCl ((wB cI h0 q1 q2 q3 q4 q5 o f ee t b ic bc 0 gn) ++ fr) H := hP
  have hD : va_D A ((wB cI h0 q1 q2 q3 q4 q5 o f ee t b ic bc 0 gn) ++ fr) := hD
  refine lv_aload_n hx hb d_B_becomeRows_5 rfl (lv_at hl 0 rfl) ?_
  refine lv_iconst (v := (-1)) hx hb d_B_becomeRows_6 (by decide) ?_
  refine va_put (ci := 0) (v := .int (-1)) (ty := .int) (C := R_B) (T := T_B) (N := 9) hx hb ht in_B t_B t_B_ok n_B hown hK.1 hP hD hS 0 rfl rfl 8 (by decide) (ht _ k_fl_B_31) (fun _ h9 => h9) rfl (by decide +kernel) rfl rfl (Nat.le_of_ble_eq_true rfl) d_B_becomeRows_7 (fun H locs hP hD hS => ?_)
  have hP : va_P D vwCl ((wB cI h0 q1 q2 q3 q4 q5 o f ee t b ic bc 0 (-1)) ++ fr) H := hP
  have hD : va_D A ((wB cI h0 q1 q2 q3 q4 q5 o f ee t b ic bc 0 (-1)) ++ fr) := hD
  refine lv_aload_n hx hb d_B_becomeRows_10 rfl (lv_at hl 0 rfl) ?_
  refine lv_iconst (v := 0) hx hb d_B_becomeRows_11 (by decide) ?_
  refine va_put (ci := 0) (v := .int 0) (ty := .int) (C := R_B) (T := T_B) (N := 9) hx hb ht in_B t_B t_B_ok n_B hown hK.1 hP hD hS 0 rfl rfl 6 (by decide) (ht _ k_fl_B_41) (fun _ h9 => h9) rfl (by decide +kernel) rfl rfl (Nat.le_of_ble_eq_true rfl) d_B_becomeRows_12 (fun H locs hP hD hS => ?_)
  have hP : va_P D vwCl ((wB cI h0 q1 q2 q3 q4 q5 o f ee t b ic 0 0 (-1)) ++ fr) H := hP
  have hD : va_D A ((wB cI h0 q1 q2 q3 q4 q5 o f ee t b ic 0 0 (-1)) ++ fr) := hD
  rw [hQ]; exact retMv (w1 := fun u : Int32 × Int32 × Int32 => ((wB cI h0 q1 q2 q3 q4 q5 o f ee t b ic u.1 u.2.1 u.2.2) ++ fr)) (0, 0, (-1)) hx hb hr hlocks hP hD hS rfl d_B_becomeRows_15

abbrev w_B_overwrite : List Cond := .code y_B_overwrite b_B_overwrite 3 none :: BIG
set_option maxHeartbeats 4000000 in
set_option maxRecDepth 100000 in
theorem c_B_overwrite (l : Launch) (D : va_G) (cI cL cO : ClassId) (h0 : Nat) (q1 : Nat) (q2 : Nat) (q3 : Nat) (q4 : Nat) (q5 : Nat) (o : Fn) (f : Fn) (ee : Fn) (t : Fn) (b : Fn) (ic : Int32) (bc : Int32) (sa : Int32) (gn : Int32) (fr : va_W) (i : Int32) (v : Int32) : CMv l y_B_overwrite w_B_overwrite ({ frames := 1, cells := 0, slots := 0, locals := 21 }) D cI cL cO [.ref h0, .int i, .int v] ((wB cI h0 q1 q2 q3 q4 q5 o f ee t b ic bc sa gn) ++ fr) (fun u : Fn => u = ovF b bc i v) (fun u : Fn => ((wB cI h0 q1 q2 q3 q4 q5 o f ee t u ic bc sa gn) ++ fr)) 0 0 := by
  refine ofMv (cc := b_B_overwrite) (maxL := 3) (ret := none) (by decide) rfl (Nat.le_of_ble_eq_true rfl) ?_
  intro p e s m below meth c A ls H Q hQ hx hb hr hlocks hin hts hown hml hP hK hD hS hA hl
  have hl : lv_has ls 3 [(0, .ref h0), (1, .int i), (2, .int v)] := hl
  have hown : s.vm.findClass R_B = some m.cls := hown
  have ht : ∀ w ∈ BIG, w.before _ s = true := fun w h => hts w (List.mem_cons_of_mem _ h)
  refine lv_aload_n hx hb d_B_overwrite_0 rfl (lv_at hl 0 rfl) ?_
  refine lv_iload_n hx hb d_B_overwrite_1 rfl (lv_at hl 1 rfl) ?_
  refine goRi (va_runV (As := [.int i]) (rest := []) ⟨hx, hb, hml, hown, hts⟩ (c_B_hasByte l D cI cL cO h0 q1 q2 q3 q4 q5 o f ee t b ic bc sa gn i) (cwV 1 hts (gBIG (m4 k_ml_B_81 k_im_B_hasByte k_sel_B_hasByte k_ini_B) k_co_B_hasByte) rfl rfl rfl (by decide +kernel) ⟨Nat.le_of_ble_eq_true rfl, Nat.le_of_ble_eq_true rfl⟩) ⟨PR.bl, va_recv hK.1 ((P_app.mp hP).1) (ci := 0) (q0 := 0) rfl rfl, PR.pre ((P_app.mp hP).1) hK⟩ rfl rfl hl.1 rfl (lv_room (Nat.le_of_ble_eq_true rfl)) d_B_overwrite_2 ⟨Nat.le_of_ble_eq_true rfl, Nat.le_of_ble_eq_true rfl⟩) ?_
  refine lv_if_eq (tgt := 15) hx hb d_B_overwrite_5 (by decide) (fun c_5 => ?_) (fun c_5 => ?_)
  · rw [hQ]; exact retMv (w1 := fun u : Fn => ((wB cI h0 q1 q2 q3 q4 q5 o f ee t u ic bc sa gn) ++ fr)) b hx hb hr hlocks hP hD hS (by simp [ovF, c_5]) d_B_overwrite_15
  · refine lv_aload_n hx hb d_B_overwrite_8 rfl (lv_at hl 0 rfl) ?_
    refine va_get (ci := 0) (v := .ref q5) (C := R_B) (T := T_B) (N := 9) hx hb ht in_B hown hK.1 hP 0 rfl rfl 4 (by decide) (ht _ k_fl_B_24) (fun _ h9 => h9) rfl d_B_overwrite_9 ?_
    refine lv_iload_n hx hb d_B_overwrite_12 rfl (lv_at hl 1 rfl) ?_
    refine lv_iload_n hx hb d_B_overwrite_13 rfl (lv_at hl 2 rfl) ?_
    refine va_iast hx hb hK.1 hP hD hS 5 0 rfl rfl (hasF_in c_5) d_B_overwrite_14 (fun H locs hP hD hS => ?_)
    have hP : va_P D vwCl ((wB cI h0 q1 q2 q3 q4 q5 o f ee t (upd b i.toNatClampNeg v) ic bc sa gn) ++ fr) H := hP
    have hD : va_D A ((wB cI h0 q1 q2 q3 q4 q5 o f ee t (upd b i.toNatClampNeg v) ic bc sa gn) ++ fr) := hD
    rw [hQ]; exact retMv (w1 := fun u : Fn => ((wB cI h0 q1 q2 q3 q4 q5 o f ee t u ic bc sa gn) ++ fr)) (upd b i.toNatClampNeg v) hx hb hr hlocks hP hD hS (by simp [ovF, c_5]) d_B_overwrite_15

abbrev w_B_addInstruction : List Cond := .code y_B_addInstruction b_B_addInstruction 5 none :: BIG
set_option maxHeartbeats 4000000 in
set_option maxRecDepth 100000 in
theorem c_B_addInstruction (l : Launch) (D : va_G) (cI cL cO : ClassId) (h0 : Nat) (q1 : Nat) (q2 : Nat) (q3 : Nat) (q4 : Nat) (q5 : Nat) (o : Fn) (f : Fn) (ee : Fn) (t : Fn) (b : Fn) (ic : Int32) (bc : Int32) (sa : Int32) (gn : Int32) (fr : va_W) (op : Int32) (a : Int32) (x : Int32) (hic : ¬ ic < 0) : CMv l y_B_addInstruction w_B_addInstruction ({ frames := 2, cells := 0, slots := 0, locals := 41 }) D cI cL cO [.ref h0, .int op, .int a, .int x] ((wB cI h0 q1 q2 q3 q4 q5 o f ee t b ic bc sa gn) ++ fr) (fun u : Fn × Fn × Fn × Fn × Int32 => u = (if ic < 60 then (upd o ic.toNatClampNeg op, upd f ic.toNatClampNeg a, upd ee ic.toNatClampNeg x, upd t (ic + 1).toNatClampNeg (t ic.toNatClampNeg + bytesF op x), ic + 1) else (o, f, ee, t, ic))) (fun u : Fn × Fn × Fn × Fn × Int32 => ((wB cI h0 q1 q2 q3 q4 q5 u.1 u.2.1 u.2.2.1 u.2.2.2.1 b u.2.2.2.2 bc sa gn) ++ fr)) 0 0 := by
  refine ofMv (cc := b_B_addInstruction) (maxL := 5) (ret := none) (by decide) rfl (Nat.le_of_ble_eq_true rfl) ?_
  intro p e s m below meth c A ls H Q hQ hx hb hr hlocks hin hts hown hml hP hK hD hS hA hl
  have hl : lv_has ls 5 [(0, .ref h0), (1, .int op), (2, .int a), (3, .int x)] := hl
  have hown : s.vm.findClass R_B = some m.cls := hown
  have ht : ∀ w ∈ BIG, w.before _ s = true := fun w h => hts w (List.mem_cons_of_mem _ h)
  refine lv_aload_n hx hb d_B_addInstruction_0 rfl (lv_at hl 0 rfl) ?_
  refine va_get (ci := 0) (v := .int ic) (C := R_B) (T := T_B) (N := 9) hx hb ht in_B hown hK.1 hP 0 rfl rfl 5 (by decide) (ht _ k_fl_B_34) (fun _ h9 => h9) rfl d_B_addInstruction_1 ?_
  refine lv_istore (lv' := [(4, .int ic), (0, .ref h0), (1, .int op), (2, .int a), (3, .int x)]) hx hb d_B_addInstruction_4 hl (by decide) rfl (fun ls hl => ?_)
  refine lv_iload hx hb d_B_addInstruction_6 (lv_at hl 0 rfl) ?_
  refine lv_bipush (v := 60) hx hb d_B_addInstruction_8 (by decide) ?_
  refine lv_icmp_lt (tgt := 14) hx hb d_B_addInstruction_10 (by decide) (fun c_10 => ?_) (fun c_10 => ?_)
  · refine lv_aload_n hx hb d_B_addInstruction_14 rfl (lv_at hl 1 rfl) ?_
    refine va_get (ci := 0) (v := .ref q1) (C := R_B) (T := T_B) (N := 9) hx hb ht in_B hown hK.1 hP 0 rfl rfl 0 (by decide) (ht _ k_fl_B_9) (fun _ h9 => h9) rfl d_B_addInstruction_15 ?_
    refine lv_iload hx hb d_B_addInstruction_18 (lv_at hl 0 rfl) ?_
    refine lv_iload_n hx hb d_B_addInstruction_20 rfl (lv_at hl 2 rfl) ?_
    refine va_iast hx hb hK.1 hP hD hS 1 0 rfl rfl (in_lt (N := 60) (by decide) hic c_10) d_B_addInstruction_21 (fun H locs hP hD hS => ?_)
    have hP : va_P D vwCl ((wB cI h0 q1 q2 q3 q4 q5 (upd o ic.toNatClampNeg op) f ee t b ic bc sa gn) ++ fr) H := hP
    have hD : va_D A ((wB cI h0 q1 q2 q3 q4 q5 (upd o ic.toNatClampNeg op) f ee t b ic bc sa gn) ++ fr) := hD
    refine lv_aload_n hx hb d_B_addInstruction_22 rfl (lv_at hl 1 rfl) ?_
    refine va_get (ci := 0) (v := .ref q2) (C := R_B) (T := T_B) (N := 9) hx hb ht in_B hown hK.1 hP 0 rfl rfl 1 (by decide) (ht _ k_fl_B_15) (fun _ h9 => h9) rfl d_B_addInstruction_23 ?_
    refine lv_iload hx hb d_B_addInstruction_26 (lv_at hl 0 rfl) ?_
    refine lv_iload_n hx hb d_B_addInstruction_28 rfl (lv_at hl 3 rfl) ?_
    refine va_iast hx hb hK.1 hP hD hS 2 0 rfl rfl (in_lt (N := 60) (by decide) hic c_10) d_B_addInstruction_29 (fun H locs hP hD hS => ?_)
    have hP : va_P D vwCl ((wB cI h0 q1 q2 q3 q4 q5 (upd o ic.toNatClampNeg op) (upd f ic.toNatClampNeg a) ee t b ic bc sa gn) ++ fr) H := hP
    have hD : va_D A ((wB cI h0 q1 q2 q3 q4 q5 (upd o ic.toNatClampNeg op) (upd f ic.toNatClampNeg a) ee t b ic bc sa gn) ++ fr) := hD
    refine lv_aload_n hx hb d_B_addInstruction_30 rfl (lv_at hl 1 rfl) ?_
    refine va_get (ci := 0) (v := .ref q3) (C := R_B) (T := T_B) (N := 9) hx hb ht in_B hown hK.1 hP 0 rfl rfl 2 (by decide) (ht _ k_fl_B_18) (fun _ h9 => h9) rfl d_B_addInstruction_31 ?_
    refine lv_iload hx hb d_B_addInstruction_34 (lv_at hl 0 rfl) ?_
    refine lv_iload_n hx hb d_B_addInstruction_36 rfl (lv_at hl 4 rfl) ?_
    refine va_iast hx hb hK.1 hP hD hS 3 0 rfl rfl (in_lt (N := 60) (by decide) hic c_10) d_B_addInstruction_37 (fun H locs hP hD hS => ?_)
    have hP : va_P D vwCl ((wB cI h0 q1 q2 q3 q4 q5 (upd o ic.toNatClampNeg op) (upd f ic.toNatClampNeg a) (upd ee ic.toNatClampNeg x) t b ic bc sa gn) ++ fr) H := hP
    have hD : va_D A ((wB cI h0 q1 q2 q3 q4 q5 (upd o ic.toNatClampNeg op) (upd f ic.toNatClampNeg a) (upd ee ic.toNatClampNeg x) t b ic bc sa gn) ++ fr) := hD
    refine lv_aload_n hx hb d_B_addInstruction_38 rfl (lv_at hl 1 rfl) ?_
    refine va_get (ci := 0) (v := .ref q4) (C := R_B) (T := T_B) (N := 9) hx hb ht in_B hown hK.1 hP 0 rfl rfl 3 (by decide) (ht _ k_fl_B_21) (fun _ h9 => h9) rfl d_B_addInstruction_39 ?_
    refine lv_iload hx hb d_B_addInstruction_42 (lv_at hl 0 rfl) ?_
    refine lv_iconst (v := 1) hx hb d_B_addInstruction_44 (by decide) ?_
    refine lv_iadd hx hb d_B_addInstruction_45 ?_
    refine lv_aload_n hx hb d_B_addInstruction_46 rfl (lv_at hl 1 rfl) ?_
    refine va_get (ci := 0) (v := .ref q4) (C := R_B) (T := T_B) (N := 9) hx hb ht in_B hown hK.1 hP 0 rfl rfl 3 (by decide) (ht _ k_fl_B_21) (fun _ h9 => h9) rfl d_B_addInstruction_47 ?_
    refine lv_iload hx hb d_B_addInstruction_50 (lv_at hl 0 rfl) ?_
    refine va_iald hx hb hK.1 hP 4 0 rfl rfl (in_lt61 hic c_10) d_B_addInstruction_52 ?_
    refine lv_iload_n hx hb d_B_addInstruction_53 rfl (lv_at hl 2 rfl) ?_
    refine lv_iload_n hx hb d_B_addInstruction_54 rfl (lv_at hl 4 rfl) ?_
    refine goRi (va_runS (As := [.int op, .int x]) (rest := [.int (t ic.toNatClampNeg), .int (ic + 1), .ref q4]) ⟨hx, hb, hml, hown, hts⟩ (c_B_bytesFor l D cI cL cO op x) (cwS 2 hts (gBIG (m3 k_ml_B_37 k_st_B_bytesFor k_ini_B) k_co_B_bytesFor) rfl rfl rfl (by decide +kernel) ⟨Nat.le_of_ble_eq_true rfl, Nat.le_of_ble_eq_true rfl⟩) ⟨PR.bl, PR.pre P_nil hK⟩ rfl rfl hl.1 rfl (lv_room (Nat.le_of_ble_eq_true rfl)) d_B_addInstruction_55 ⟨Nat.le_of_ble_eq_true rfl, Nat.le_of_ble_eq_true rfl⟩) ?_
    refine lv_iadd hx hb d_B_addInstruction_58 ?_
    refine va_iast hx hb hK.1 hP hD hS 4 0 rfl rfl (in_lt1 hic c_10) d_B_addInstruction_59 (fun H locs hP hD hS => ?_)
    have hP : va_P D vwCl ((wB cI h0 q1 q2 q3 q4 q5 (upd o ic.toNatClampNeg op) (upd f ic.toNatClampNeg a) (upd ee ic.toNatClampNeg x) (upd t (ic + 1).toNatClampNeg ((t ic.toNatClampNeg) + (bytesF op x))) b ic bc sa gn) ++ fr) H := hP
    have hD : va_D A ((wB cI h0 q1 q2 q3 q4 q5 (upd o ic.toNatClampNeg op) (upd f ic.toNatClampNeg a) (upd ee ic.toNatClampNeg x) (upd t (ic + 1).toNatClampNeg ((t ic.toNatClampNeg) + (bytesF op x))) b ic bc sa gn) ++ fr) := hD
    refine lv_aload_n hx hb d_B_addInstruction_60 rfl (lv_at hl 1 rfl) ?_
    refine lv_iload hx hb d_B_addInstruction_61 (lv_at hl 0 rfl) ?_
    refine lv_iconst (v := 1) hx hb d_B_addInstruction_63 (by decide) ?_
    refine lv_iadd hx hb d_B_addInstruction_64 ?_
    refine va_put (ci := 0) (v := .int (ic + 1)) (ty := .int) (C := R_B) (T := T_B) (N := 9) hx hb ht in_B t_B t_B_ok n_B hown hK.1 hP hD hS 0 rfl rfl 5 (by decide) (ht _ k_fl_B_34) (fun _ h9 => h9) rfl (by decide +kernel) rfl rfl (Nat.le_of_ble_eq_true rfl) d_B_addInstruction_65 (fun H locs hP hD hS => ?_)
    have hP : va_P D vwCl ((wB cI h0 q1 q2 q3 q4 q5 (upd o ic.toNatClampNeg op) (upd f ic.toNatClampNeg a) (upd ee ic.toNatClampNeg x) (upd t (ic + 1).toNatClampNeg ((t ic.toNatClampNeg) + (bytesF op x))) b (ic + 1) bc sa gn) ++ fr) H := hP
    have hD : va_D A ((wB cI h0 q1 q2 q3 q4 q5 (upd o ic.toNatClampNeg op) (upd f ic.toNatClampNeg a) (upd ee ic.toNatClampNeg x) (upd t (ic + 1).toNatClampNeg ((t ic.toNatClampNeg) + (bytesF op x))) b (ic + 1) bc sa gn) ++ fr) := hD
    rw [hQ]; exact retMv (w1 := fun u : Fn × Fn × Fn × Fn × Int32 => ((wB cI h0 q1 q2 q3 q4 q5 u.1 u.2.1 u.2.2.1 u.2.2.2.1 b u.2.2.2.2 bc sa gn) ++ fr)) (upd o ic.toNatClampNeg op, upd f ic.toNatClampNeg a, upd ee ic.toNatClampNeg x, upd t (ic + 1).toNatClampNeg ((t ic.toNatClampNeg) + (bytesF op x)), ic + 1) hx hb hr hlocks hP hD hS (by simp [c_10]) d_B_addInstruction_68
  · rw [hQ]; exact retMv (w1 := fun u : Fn × Fn × Fn × Fn × Int32 => ((wB cI h0 q1 q2 q3 q4 q5 u.1 u.2.1 u.2.2.1 u.2.2.2.1 b u.2.2.2.2 bc sa gn) ++ fr)) (o, f, ee, t, ic) hx hb hr hlocks hP hD hS (by simp [c_10]) d_B_addInstruction_13
