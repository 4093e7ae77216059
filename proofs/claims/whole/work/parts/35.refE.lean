def roI (o f e : Fn) (sz i : Int32) (g : FL) (sp en : Int32) (RES : FL × Int32 × Int32) : Prop := (en = 0 ∧ roL o f e sz (2001 - sp.toInt).toNat i g sp = RES) ∨ (¬ en = 0 ∧ (g, sp, en) = RES)
theorem ne2000 {sp : Int32} (hs : 0 ≤ sp.toInt ∧ sp.toInt ≤ 2000) (c : ¬ sp = 2000) : sp.toInt < 2000 := by
  have h2 : (2000 : Int32).toInt = 2000 := by decide
  have : ¬ sp.toInt = 2000 := fun z => c (Int32.toInt_inj.mp (by rw [h2]; exact z))
  omega
theorem roI_s {o f e : Fn} {sz i sp en : Int32} {g : FL} {RES : FL × Int32 × Int32} (h : roI o f e sz i g sp en RES) (he : en = 0) (h0 : 0 ≤ i.toInt) (hs : 0 ≤ sp.toInt ∧ sp.toInt ≤ 2000) (c : ¬ sz ≤ i) : (if sp = 2000 then (g, sp, 2) else
    if o i.toNatClampNeg = 4 then
      if lg_cmp (ldF g (e i.toNatClampNeg)) 0 = 0 then (g, sp, 1) else roL o f e sz (2001 - (sp + 1).toInt).toNat (i + 1) (stF g (f i.toNatClampNeg) (resF g (o i.toNatClampNeg) (f i.toNatClampNeg) (e i.toNatClampNeg))) (sp + 1)
    else if o i.toNatClampNeg = 6 then roL o f e sz (2001 - (sp + 1).toInt).toNat (if lg_cmp (ldF g (f i.toNatClampNeg)) 0 = 0 then i + 1 else e i.toNatClampNeg) g (sp + 1)
    else roL o f e sz (2001 - (sp + 1).toInt).toNat (i + 1) (stF g (f i.toNatClampNeg) (resF g (o i.toNatClampNeg) (f i.toNatClampNeg) (e i.toNatClampNeg))) (sp + 1)) = RES := by
  rcases h with ⟨-, h⟩ | ⟨h, -⟩
  · rw [show (2001 - sp.toInt).toNat = (2000 - sp.toInt).toNat + 1 by omega, roL_s h0 hs c] at h
    by_cases q : sp = 2000
    · rw [if_pos q] at h ⊢; exact h
    · have q1 := ne2000 hs q
      rw [if_neg q] at h ⊢
      rw [show (2001 - (sp + 1).toInt).toNat = (2000 - sp.toInt).toNat by rw [i32_1 (by omega)]; omega]
      exact h
  · exact absurd he h
theorem ro_x {o f e : Fn} {sz i sp en : Int32} {g : FL} {RES : FL × Int32 × Int32} (h : roI o f e sz i g sp en RES) (h0 : 0 ≤ i.toInt) (hs : 0 ≤ sp.toInt ∧ sp.toInt ≤ 2000) (c : sz ≤ i) : (g, sp, en) = RES := by
  rcases h with ⟨he, h⟩ | ⟨-, h⟩
  · rw [show (2001 - sp.toInt).toNat = (2000 - sp.toInt).toNat + 1 by omega, roL_e h0 c] at h
    rw [he]; exact h
  · exact h
theorem o7 {o a b : Int32} (h : okI o a b) (c : ¬ o ≤ 6) : o = 7 := by
  have h6 : (6 : Int32).toInt = 6 := by decide
  have h7 : (7 : Int32).toInt = 7 := by decide
  have h1 := h.1
  rw [Int32.le_iff_toInt_le, h6] at c
  exact Int32.toInt_inj.mp (by rw [h7]; omega)
theorem zre_w {o a b : Int32} {x y : Int64} (h : okI o a b) (c0 : ¬ o = 0) (c6 : ¬ o = 6) (c : o ≤ 6) (hz : o = 4 → ¬ y = 0) : zreF o x y = workedF o x y := by
  unfold zreF workedF
  by_cases q1 : o = 1
  · simp only [if_pos q1]
  by_cases q2 : o = 2
  · simp only [if_neg q1, if_pos q2]
  by_cases q3 : o = 3
  · simp only [if_neg q1, if_neg q2, if_pos q3]
  by_cases q4 : o = 4
  · simp only [if_neg q1, if_neg q2, if_neg q3, if_pos q4, if_neg (fun z => hz q4 ((lg_cmp_eq _ _).mp z))]
  · have q5 : o = 5 := by
      have h1 := h.1
      have e0 := lv_neT c0 (show (0 : Int32).toInt = 0 by decide)
      have e1 := lv_neT q1 (show (1 : Int32).toInt = 1 by decide)
      have e2 := lv_neT q2 (show (2 : Int32).toInt = 2 by decide)
      have e3 := lv_neT q3 (show (3 : Int32).toInt = 3 by decide)
      have e4 := lv_neT q4 (show (4 : Int32).toInt = 4 by decide)
      have e6 := lv_neT c6 (show (6 : Int32).toInt = 6 by decide)
      rw [Int32.le_iff_toInt_le, show (6 : Int32).toInt = 6 by decide] at c
      exact Int32.toInt_inj.mp (by rw [show (5 : Int32).toInt = 5 by decide]; omega)
    simp only [if_neg q1, if_neg q2, if_neg q3, if_neg q4, if_pos q5]

abbrev w_Z_runRows : List Cond := .code y_Z_runRows b_Z_runRows 5 none :: BIG
set_option maxHeartbeats 4000000 in
set_option maxRecDepth 100000 in
theorem c_Z_runRows (l : Launch) (D : va_G) (cI cL cO : ClassId) (z0 : Nat) (y1 : Nat) (y2 : Nat) (y3 : Nat) (y4 : Nat) (y5 : Nat) (y6 : Nat) (y7 : Nat) (y8 : Nat) (y9 : Nat) (y10 : Nat) (y11 : Nat) (y12 : Nat) (y13 : Nat) (y14 : Nat) (mn : Fn) (oo : Fn) (oa : Fn) (ob : Fn) (ss : Fn) (gg : Fn) (zz : Fn) (md : Fn) (sd : Fn) (da : Fn) (rg : FL) (pp : FL) (kp : FL) (ot : FL) (th : Int32) (li : Int32) (bl : Int32) (nw : Int32) (wr : Int32) (ru : Int32) (al : Int32) (sp : Int32) (en : Int32) (ke : Int32) (kb : Int32) (at0 : Int32) (fr : va_W) (k : Int32) (hmn : ∀ j, j < 24 → 0 ≤ (mn j).toInt ∧ (mn j).toInt ≤ 60) (hk : 0 ≤ k.toInt ∧ k.toInt < 24 ∧ True) (hok : okB (vw 60 oo k) (vw 60 oa k) (vw 60 ob k) (mn k.toNatClampNeg)) (hsp : sp = 0) (hen : en = 0) : CMv l y_Z_runRows w_Z_runRows ({ frames := 1, cells := 0, slots := 0, locals := 24 }) D cI cL cO [.ref z0, .int k] ((wZ cI cL z0 y1 y2 y3 y4 y5 y6 y7 y8 y9 y10 y11 y12 y13 y14 mn oo oa ob ss gg zz md sd da rg pp kp ot th li bl nw wr ru al sp en ke kb at0) ++ fr) (fun u : FL × Int32 × Int32 => u = roL (vw 60 oo k) (vw 60 oa k) (vw 60 ob k) (mn k.toNatClampNeg) 2001 0 rg 0) (fun u : FL × Int32 × Int32 => ((wZ cI cL z0 y1 y2 y3 y4 y5 y6 y7 y8 y9 y10 y11 y12 y13 y14 mn oo oa ob ss gg zz md sd da u.1 pp kp ot th li bl nw wr ru al u.2.1 u.2.2 ke kb at0) ++ fr)) 0 0 := by
  refine ofMv (cc := b_Z_runRows) (maxL := 5) (ret := none) (by decide) rfl (Nat.le_of_ble_eq_true rfl) ?_
  intro p e s m below meth c A ls H Q hQ hx hb hr hlocks hin hts hown hml hP hK hD hS hA hl
  have hl : lv_has ls 5 [(0, .ref z0), (1, .int k)] := hl
  have hown : s.vm.findClass R_Z = some m.cls := hown
  have ht : ∀ w ∈ BIG, w.before _ s = true := fun w h => hts w (List.mem_cons_of_mem _ h)
  refine lv_iconst (v := 0) hx hb d_Z_runRows_0 (by decide) ?_
  refine lv_istore_n (lv' := [(2, .int 0), (0, .ref z0), (1, .int k)]) hx hb d_Z_runRows_1 rfl hl (by decide) rfl (fun ls hl => ?_)
  have lp : ∀ (n : Nat) (i : Int32) (rg1 : FL) (sp1 : Int32) (en1 : Int32) (H : Heap) (locs : List Loc) (ls : Array Slot), ((en1 = 0 → 2002 ≤ sp1.toInt + (n : Int)) ∧ 1 ≤ n) → (0 ≤ i.toInt ∧ i.toInt ≤ 60) → (0 ≤ sp1.toInt ∧ sp1.toInt ≤ 2000) → (roI (vw 60 oo k) (vw 60 oa k) (vw 60 ob k) (mn k.toNatClampNeg) i rg1 sp1 en1 (roL (vw 60 oo k) (vw 60 oa k) (vw 60 ob k) (mn k.toNatClampNeg) 2001 0 rg 0)) → va_P D vwCl ((wZ cI cL z0 y1 y2 y3 y4 y5 y6 y7 y8 y9 y10 y11 y12 y13 y14 mn oo oa ob ss gg zz md sd da rg1 pp kp ot th li bl nw wr ru al sp1 en1 ke kb at0) ++ fr) H → va_D A ((wZ cI cL z0 y1 y2 y3 y4 y5 y6 y7 y8 y9 y10 y11 y12 y13 y14 mn oo oa ob ss gg zz md sd da rg1 pp kp ot th li bl nw wr ru al sp1 en1 ke kb at0) ++ fr) → va_S A s.heap H locs → lv_has ls 5 [(0, .ref z0), (1, .int k), (2, .int i)] → W p l e ({ frames := 1, cells := 0, slots := 0, locals := 24 } : Room) s m ([.ref z0, .int k] : List Value).toArray below meth c H locs 0 0 Q (F0 m 2 ls []) := by
    intro n
    induction n with
    | zero =>
      intro i rg1 sp1 en1 H locs ls hn hi hs hF hP hD hS hl
      exact absurd hn.2 (by omega)
    | succ n ih =>
      intro i rg1 sp1 en1 H locs ls hn hi hs hF hP hD hS hl
      refine lv_iload_n hx hb d_Z_runRows_2 rfl (lv_at hl 2 rfl) ?_
      refine lv_aload_n hx hb d_Z_runRows_3 rfl (lv_at hl 0 rfl) ?_
      refine va_get (ci := 5) (v := .ref y1) (C := R_Z) (T := T_Z) (N := 26) hx hb ht in_Z hown hK.1 hP 0 rfl rfl 7 (by decide) (ht _ k_fl_Z_7) (fun _ h9 => h9) rfl d_Z_runRows_4 ?_
      refine lv_iload_n hx hb d_Z_runRows_7 rfl (lv_at hl 1 rfl) ?_
      refine va_iald hx hb hK.1 hP 1 0 rfl rfl (in_k hk) d_Z_runRows_8 ?_
      refine lv_icmp_ge (tgt := 220) hx hb d_Z_runRows_9 (by decide) (fun c_9 => ?_) (fun c_9 => ?_)
      · rw [hQ]; exact retMv (w1 := fun u : FL × Int32 × Int32 => ((wZ cI cL z0 y1 y2 y3 y4 y5 y6 y7 y8 y9 y10 y11 y12 y13 y14 mn oo oa ob ss gg zz md sd da u.1 pp kp ot th li bl nw wr ru al u.2.1 u.2.2 ke kb at0) ++ fr)) (rg1, sp1, en1) hx hb hr hlocks hP hD hS (ro_x hF hi.1 hs c_9) d_Z_runRows_220
      · refine lv_aload_n hx hb d_Z_runRows_12 rfl (lv_at hl 0 rfl) ?_
        refine va_get (ci := 5) (v := .int en1) (C := R_Z) (T := T_Z) (N := 26) hx hb ht in_Z hown hK.1 hP 0 rfl rfl 20 (by decide) (ht _ k_fl_Z_127) (fun _ h9 => h9) rfl d_Z_runRows_13 ?_
        refine lv_if_ne (tgt := 220) hx hb d_Z_runRows_16 (by decide) (fun c_16 => ?_) (fun c_16 => ?_)
        · rw [hQ]; exact retMv (w1 := fun u : FL × Int32 × Int32 => ((wZ cI cL z0 y1 y2 y3 y4 y5 y6 y7 y8 y9 y10 y11 y12 y13 y14 mn oo oa ob ss gg zz md sd da u.1 pp kp ot th li bl nw wr ru al u.2.1 u.2.2 ke kb at0) ++ fr)) (rg1, sp1, en1) hx hb hr hlocks hP hD hS (hF.resolve_left (fun q => c_16 q.1)).2 d_Z_runRows_220
        · have hR := roI_s hF c_16 hi.1 hs c_9
          refine lv_bipush (v := 60) hx hb d_Z_runRows_19 (by decide) ?_
          refine lv_iload_n hx hb d_Z_runRows_21 rfl (lv_at hl 1 rfl) ?_
          refine lv_imul hx hb d_Z_runRows_22 ?_
          refine lv_iload_n hx hb d_Z_runRows_23 rfl (lv_at hl 2 rfl) ?_
          refine lv_iadd hx hb d_Z_runRows_24 ?_
          refine lv_istore_n (lv' := [(3, .int ((60 * k) + i)), (0, .ref z0), (1, .int k), (2, .int i)]) hx hb d_Z_runRows_25 rfl hl (by decide) rfl (fun ls hl => ?_)
          refine lv_aload_n hx hb d_Z_runRows_26 rfl (lv_at hl 1 rfl) ?_
          refine va_get (ci := 5) (v := .ref y2) (C := R_Z) (T := T_Z) (N := 26) hx hb ht in_Z hown hK.1 hP 0 rfl rfl 8 (by decide) (ht _ k_fl_Z_13) (fun _ h9 => h9) rfl d_Z_runRows_27 ?_
          refine lv_iload_n hx hb d_Z_runRows_30 rfl (lv_at hl 0 rfl) ?_
          refine va_iald hx hb hK.1 hP 2 0 rfl rfl (in60 hk (ro_i (m := 0) (hmn _ (kc hk)) hi c_9)) d_Z_runRows_31 ?_
          rw [show oo ((60 * k) + i).toNatClampNeg = vw 60 oo k i.toNatClampNeg from (vw60 hk (ro_i (m := 0) (hmn _ (kc hk)) hi c_9))]
          refine lv_istore (lv' := [(4, .int (vw 60 oo k i.toNatClampNeg)), (3, .int ((60 * k) + i)), (0, .ref z0), (1, .int k), (2, .int i)]) hx hb d_Z_runRows_32 hl (by decide) rfl (fun ls hl => ?_)
          refine lv_aload_n hx hb d_Z_runRows_34 rfl (lv_at hl 2 rfl) ?_
          refine va_get (ci := 5) (v := .int sp1) (C := R_Z) (T := T_Z) (N := 26) hx hb ht in_Z hown hK.1 hP 0 rfl rfl 19 (by decide) (ht _ k_fl_Z_124) (fun _ h9 => h9) rfl d_Z_runRows_35 ?_
          refine lv_sipush (v := 2000) hx hb d_Z_runRows_38 (by decide) ?_
          refine lv_icmp_ne (tgt := 52) hx hb d_Z_runRows_41 (by decide) (fun c_41 => ?_) (fun c_41 => ?_)
          · refine lv_iload hx hb d_Z_runRows_52 (lv_at hl 0 rfl) ?_
            refine lv_iconst (v := 4) hx hb d_Z_runRows_54 (by decide) ?_
            refine lv_icmp_ne (tgt := 82) hx hb d_Z_runRows_55 (by decide) (fun c_55 => ?_) (fun c_55 => ?_)
            · refine lv_aload_n hx hb d_Z_runRows_82 rfl (lv_at hl 2 rfl) ?_
              refine lv_dup hx hb d_Z_runRows_83 rfl ?_
              refine va_get (ci := 5) (v := .int sp1) (C := R_Z) (T := T_Z) (N := 26) hx hb ht in_Z hown hK.1 hP 0 rfl rfl 19 (by decide) (ht _ k_fl_Z_124) (fun _ h9 => h9) rfl d_Z_runRows_84 ?_
              refine lv_iconst (v := 1) hx hb d_Z_runRows_87 (by decide) ?_
              refine lv_iadd hx hb d_Z_runRows_88 ?_
              refine va_put (ci := 5) (v := .int (sp1 + 1)) (ty := .int) (C := R_Z) (T := T_Z) (N := 26) hx hb ht in_Z t_Z t_Z_ok n_Z hown hK.1 hP hD hS 0 rfl rfl 19 (by decide) (ht _ k_fl_Z_124) (fun _ h9 => h9) rfl (by decide +kernel) rfl rfl (Nat.le_of_ble_eq_true rfl) d_Z_runRows_89 (fun H locs hP hD hS => ?_)
              have hP : va_P D vwCl ((wZ cI cL z0 y1 y2 y3 y4 y5 y6 y7 y8 y9 y10 y11 y12 y13 y14 mn oo oa ob ss gg zz md sd da rg1 pp kp ot th li bl nw wr ru al (sp1 + 1) en1 ke kb at0) ++ fr) H := hP
              have hD : va_D A ((wZ cI cL z0 y1 y2 y3 y4 y5 y6 y7 y8 y9 y10 y11 y12 y13 y14 mn oo oa ob ss gg zz md sd da rg1 pp kp ot th li bl nw wr ru al (sp1 + 1) en1 ke kb at0) ++ fr) := hD
              refine lv_iinc (v := i + 1) (lv' := [(2, .int (i + 1)), (4, .int (vw 60 oo k i.toNatClampNeg)), (3, .int ((60 * k) + i)), (0, .ref z0), (1, .int k)]) hx hb d_Z_runRows_92 hl (k := 4) rfl rfl (by decide) rfl (fun ls hl => ?_)
              refine lv_iload hx hb d_Z_runRows_95 (lv_at hl 1 rfl) ?_
              refine lv_if_ne (tgt := 121) hx hb d_Z_runRows_97 (by decide) (fun c_97 => ?_) (fun c_97 => ?_)
              · refine lv_iload hx hb d_Z_runRows_121 (lv_at hl 1 rfl) ?_
                refine lv_bipush (v := 6) hx hb d_Z_runRows_123 (by decide) ?_
                refine lv_icmp_ne (tgt := 158) hx hb d_Z_runRows_125 (by decide) (fun c_125 => ?_) (fun c_125 => ?_)
                · refine lv_aload_n hx hb d_Z_runRows_158 rfl (lv_at hl 3 rfl) ?_
                  refine va_get (ci := 5) (v := .ref y11) (C := R_Z) (T := T_Z) (N := 26) hx hb ht in_Z hown hK.1 hP 0 rfl rfl 17 (by decide) (ht _ k_fl_Z_40) (fun _ h9 => h9) rfl d_Z_runRows_159 ?_
                  refine lv_aload_n hx hb d_Z_runRows_162 rfl (lv_at hl 3 rfl) ?_
                  refine va_get (ci := 5) (v := .ref y3) (C := R_Z) (T := T_Z) (N := 26) hx hb ht in_Z hown hK.1 hP 0 rfl rfl 9 (by decide) (ht _ k_fl_Z_16) (fun _ h9 => h9) rfl d_Z_runRows_163 ?_
                  refine lv_iload_n hx hb d_Z_runRows_166 rfl (lv_at hl 2 rfl) ?_
                  refine va_iald hx hb hK.1 hP 3 0 rfl rfl (in60 hk (ro_i (m := 0) (hmn _ (kc hk)) hi c_9)) d_Z_runRows_167 ?_
                  rw [show oa ((60 * k) + i).toNatClampNeg = vw 60 oa k i.toNatClampNeg from (vw60 hk (ro_i (m := 0) (hmn _ (kc hk)) hi c_9))]
                  refine lv_iload hx hb d_Z_runRows_168 (lv_at hl 1 rfl) ?_
                  refine lv_bipush (v := 6) hx hb d_Z_runRows_170 (by decide) ?_
                  refine lv_icmp_le (tgt := 189) hx hb d_Z_runRows_172 (by decide) (fun c_172 => ?_) (fun c_172 => ?_)
                  · refine lv_iload hx hb d_Z_runRows_189 (lv_at hl 1 rfl) ?_
                    refine lv_aload_n hx hb d_Z_runRows_191 rfl (lv_at hl 3 rfl) ?_
                    refine va_get (ci := 5) (v := .ref y11) (C := R_Z) (T := T_Z) (N := 26) hx hb ht in_Z hown hK.1 hP 0 rfl rfl 17 (by decide) (ht _ k_fl_Z_40) (fun _ h9 => h9) rfl d_Z_runRows_192 ?_
                    refine lv_aload_n hx hb d_Z_runRows_195 rfl (lv_at hl 3 rfl) ?_
                    refine va_get (ci := 5) (v := .ref y3) (C := R_Z) (T := T_Z) (N := 26) hx hb ht in_Z hown hK.1 hP 0 rfl rfl 9 (by decide) (ht _ k_fl_Z_16) (fun _ h9 => h9) rfl d_Z_runRows_196 ?_
                    refine lv_iload_n hx hb d_Z_runRows_199 rfl (lv_at hl 2 rfl) ?_
                    refine va_iald hx hb hK.1 hP 3 0 rfl rfl (in60 hk (ro_i (m := 0) (hmn _ (kc hk)) hi c_9)) d_Z_runRows_200 ?_
                    rw [show oa ((60 * k) + i).toNatClampNeg = vw 60 oa k i.toNatClampNeg from (vw60 hk (ro_i (m := 0) (hmn _ (kc hk)) hi c_9))]
                    refine va_lald hx hb hK.1 hP 11 1 rfl rfl (in4 (hok.at hi.1 c_9).2.1) d_Z_runRows_201 ?_
                    rw [show rg1 (vw 60 oa k i.toNatClampNeg).toNatClampNeg = ldF rg1 (vw 60 oa k i.toNatClampNeg) from (ldF1 (hok.at hi.1 c_9).2.1).symm]
                    refine lv_aload_n hx hb d_Z_runRows_202 rfl (lv_at hl 3 rfl) ?_
                    refine va_get (ci := 5) (v := .ref y11) (C := R_Z) (T := T_Z) (N := 26) hx hb ht in_Z hown hK.1 hP 0 rfl rfl 17 (by decide) (ht _ k_fl_Z_40) (fun _ h9 => h9) rfl d_Z_runRows_203 ?_
                    refine lv_aload_n hx hb d_Z_runRows_206 rfl (lv_at hl 3 rfl) ?_
                    refine va_get (ci := 5) (v := .ref y4) (C := R_Z) (T := T_Z) (N := 26) hx hb ht in_Z hown hK.1 hP 0 rfl rfl 10 (by decide) (ht _ k_fl_Z_19) (fun _ h9 => h9) rfl d_Z_runRows_207 ?_
                    refine lv_iload_n hx hb d_Z_runRows_210 rfl (lv_at hl 2 rfl) ?_
                    refine va_iald hx hb hK.1 hP 4 0 rfl rfl (in60 hk (ro_i (m := 0) (hmn _ (kc hk)) hi c_9)) d_Z_runRows_211 ?_
                    rw [show ob ((60 * k) + i).toNatClampNeg = vw 60 ob k i.toNatClampNeg from (vw60 hk (ro_i (m := 0) (hmn _ (kc hk)) hi c_9))]
                    refine va_lald hx hb hK.1 hP 11 1 rfl rfl (in4 (okI.b (hok.at hi.1 c_9) c_97 c_125)) d_Z_runRows_212 ?_
                    rw [show rg1 (vw 60 ob k i.toNatClampNeg).toNatClampNeg = ldF rg1 (vw 60 ob k i.toNatClampNeg) from (ldF1 (okI.b (hok.at hi.1 c_9) c_97 c_125)).symm]
                    refine goRl (va_runS (As := [.int (vw 60 oo k i.toNatClampNeg), .long (ldF rg1 (vw 60 oa k i.toNatClampNeg)), .long (ldF rg1 (vw 60 ob k i.toNatClampNeg))]) (rest := [.int (vw 60 oa k i.toNatClampNeg), .ref y11]) ⟨hx, hb, hml, hown, hts⟩ (c_Z_result l D cI cL cO (vw 60 oo k i.toNatClampNeg) (ldF rg1 (vw 60 oa k i.toNatClampNeg)) (ldF rg1 (vw 60 ob k i.toNatClampNeg)) (fun h => absurd h c_55)) (cwS 3 hts (gBIG (m3 k_ml_Z_130 k_st_Z_result k_ini_Z) k_co_Z_result) rfl rfl rfl (by decide +kernel) ⟨Nat.le_of_ble_eq_true rfl, Nat.le_of_ble_eq_true rfl⟩) ⟨PR.bl, PR.pre P_nil hK⟩ rfl rfl hl.1 rfl (lv_room (Nat.le_of_ble_eq_true rfl)) d_Z_runRows_213 ⟨Nat.le_of_ble_eq_true rfl, Nat.le_of_ble_eq_true rfl⟩) ?_
                    refine va_last hx hb hK.1 hP hD hS 11 1 rfl rfl (in4 (hok.at hi.1 c_9).2.1) d_Z_runRows_216 (fun H locs hP hD hS => ?_)
                    have hP : va_P D vwCl ((wZ cI cL z0 y1 y2 y3 y4 y5 y6 y7 y8 y9 y10 y11 y12 y13 y14 mn oo oa ob ss gg zz md sd da (vp_updL rg1 (vw 60 oa k i.toNatClampNeg).toNatClampNeg (zreF (vw 60 oo k i.toNatClampNeg) (ldF rg1 (vw 60 oa k i.toNatClampNeg)) (ldF rg1 (vw 60 ob k i.toNatClampNeg)))) pp kp ot th li bl nw wr ru al (sp1 + 1) en1 ke kb at0) ++ fr) H := hP
                    have hD : va_D A ((wZ cI cL z0 y1 y2 y3 y4 y5 y6 y7 y8 y9 y10 y11 y12 y13 y14 mn oo oa ob ss gg zz md sd da (vp_updL rg1 (vw 60 oa k i.toNatClampNeg).toNatClampNeg (zreF (vw 60 oo k i.toNatClampNeg) (ldF rg1 (vw 60 oa k i.toNatClampNeg)) (ldF rg1 (vw 60 ob k i.toNatClampNeg)))) pp kp ot th li bl nw wr ru al (sp1 + 1) en1 ke kb at0) ++ fr) := hD
                    refine lv_goto (tgt := 2) hx hb d_Z_runRows_217 (by decide) ?_
                    exact ih (i + 1) (vp_updL rg1 (vw 60 oa k i.toNatClampNeg).toNatClampNeg (zreF (vw 60 oo k i.toNatClampNeg) (ldF rg1 (vw 60 oa k i.toNatClampNeg)) (ldF rg1 (vw 60 ob k i.toNatClampNeg)))) (sp1 + 1) en1 _ _ ls (⟨fun _ => by rw [i32_1 (by omega)]; have := hn.1 c_16; omega, by have := hn.1 c_16; omega⟩) (by rw [i32_1 (by omega)]; have := (ro_i (m := 0) (hmn _ (kc hk)) hi c_9); omega) (by rw [i32_1 (by omega)]; have := ne2000 hs c_41; omega) (Or.inl ⟨c_16, by rw [← hR]; simp only [if_neg c_9, if_pos c_16, if_neg c_41, if_neg c_55, if_neg c_97, if_neg c_125, if_pos c_172, stF1 (hok.at hi.1 c_9).2.1, resF, zre_w (hok.at hi.1 c_9) c_97 c_125 c_172 (fun h => absurd h c_55), if_neg (show ¬ vw 60 oo k i.toNatClampNeg = 7 from fun z => absurd (z ▸ c_172) (by decide))]⟩) hP hD hS (lv_sub hl [3, 4, 0] rfl)
                  · refine lv_aload_n hx hb d_Z_runRows_175 rfl (lv_at hl 3 rfl) ?_
                    refine va_get (ci := 5) (v := .ref y11) (C := R_Z) (T := T_Z) (N := 26) hx hb ht in_Z hown hK.1 hP 0 rfl rfl 17 (by decide) (ht _ k_fl_Z_40) (fun _ h9 => h9) rfl d_Z_runRows_176 ?_
                    refine lv_aload_n hx hb d_Z_runRows_179 rfl (lv_at hl 3 rfl) ?_
                    refine va_get (ci := 5) (v := .ref y4) (C := R_Z) (T := T_Z) (N := 26) hx hb ht in_Z hown hK.1 hP 0 rfl rfl 10 (by decide) (ht _ k_fl_Z_19) (fun _ h9 => h9) rfl d_Z_runRows_180 ?_
                    refine lv_iload_n hx hb d_Z_runRows_183 rfl (lv_at hl 2 rfl) ?_
                    refine va_iald hx hb hK.1 hP 4 0 rfl rfl (in60 hk (ro_i (m := 0) (hmn _ (kc hk)) hi c_9)) d_Z_runRows_184 ?_
                    rw [show ob ((60 * k) + i).toNatClampNeg = vw 60 ob k i.toNatClampNeg from (vw60 hk (ro_i (m := 0) (hmn _ (kc hk)) hi c_9))]
                    refine va_lald hx hb hK.1 hP 11 1 rfl rfl (in4 (okI.b (hok.at hi.1 c_9) c_97 c_125)) d_Z_runRows_185 ?_
                    rw [show rg1 (vw 60 ob k i.toNatClampNeg).toNatClampNeg = ldF rg1 (vw 60 ob k i.toNatClampNeg) from (ldF1 (okI.b (hok.at hi.1 c_9) c_97 c_125)).symm]
                    refine lv_goto (tgt := 216) hx hb d_Z_runRows_186 (by decide) ?_
                    refine va_last hx hb hK.1 hP hD hS 11 1 rfl rfl (in4 (hok.at hi.1 c_9).2.1) d_Z_runRows_216 (fun H locs hP hD hS => ?_)
                    have hP : va_P D vwCl ((wZ cI cL z0 y1 y2 y3 y4 y5 y6 y7 y8 y9 y10 y11 y12 y13 y14 mn oo oa ob ss gg zz md sd da (vp_updL rg1 (vw 60 oa k i.toNatClampNeg).toNatClampNeg (ldF rg1 (vw 60 ob k i.toNatClampNeg))) pp kp ot th li bl nw wr ru al (sp1 + 1) en1 ke kb at0) ++ fr) H := hP
                    have hD : va_D A ((wZ cI cL z0 y1 y2 y3 y4 y5 y6 y7 y8 y9 y10 y11 y12 y13 y14 mn oo oa ob ss gg zz md sd da (vp_updL rg1 (vw 60 oa k i.toNatClampNeg).toNatClampNeg (ldF rg1 (vw 60 ob k i.toNatClampNeg))) pp kp ot th li bl nw wr ru al (sp1 + 1) en1 ke kb at0) ++ fr) := hD
                    refine lv_goto (tgt := 2) hx hb d_Z_runRows_217 (by decide) ?_
                    exact ih (i + 1) (vp_updL rg1 (vw 60 oa k i.toNatClampNeg).toNatClampNeg (ldF rg1 (vw 60 ob k i.toNatClampNeg))) (sp1 + 1) en1 _ _ ls (⟨fun _ => by rw [i32_1 (by omega)]; have := hn.1 c_16; omega, by have := hn.1 c_16; omega⟩) (by rw [i32_1 (by omega)]; have := (ro_i (m := 0) (hmn _ (kc hk)) hi c_9); omega) (by rw [i32_1 (by omega)]; have := ne2000 hs c_41; omega) (Or.inl ⟨c_16, by rw [← hR]; simp only [if_neg c_9, if_pos c_16, if_neg c_41, if_neg c_55, if_neg c_97, if_neg c_125, if_neg c_172, stF1 (hok.at hi.1 c_9).2.1, resF, if_pos (o7 (hok.at hi.1 c_9) c_172), if_neg (show ¬ vw 60 oo k i.toNatClampNeg = 4 by rw [o7 (hok.at hi.1 c_9) c_172]; decide)]⟩) hP hD hS (lv_sub hl [3, 4, 0] rfl)
                · refine lv_aload_n hx hb d_Z_runRows_128 rfl (lv_at hl 3 rfl) ?_
                  refine va_get (ci := 5) (v := .ref y11) (C := R_Z) (T := T_Z) (N := 26) hx hb ht in_Z hown hK.1 hP 0 rfl rfl 17 (by decide) (ht _ k_fl_Z_40) (fun _ h9 => h9) rfl d_Z_runRows_129 ?_
                  refine lv_aload_n hx hb d_Z_runRows_132 rfl (lv_at hl 3 rfl) ?_
                  refine va_get (ci := 5) (v := .ref y3) (C := R_Z) (T := T_Z) (N := 26) hx hb ht in_Z hown hK.1 hP 0 rfl rfl 9 (by decide) (ht _ k_fl_Z_16) (fun _ h9 => h9) rfl d_Z_runRows_133 ?_
                  refine lv_iload_n hx hb d_Z_runRows_136 rfl (lv_at hl 2 rfl) ?_
                  refine va_iald hx hb hK.1 hP 3 0 rfl rfl (in60 hk (ro_i (m := 0) (hmn _ (kc hk)) hi c_9)) d_Z_runRows_137 ?_
                  rw [show oa ((60 * k) + i).toNatClampNeg = vw 60 oa k i.toNatClampNeg from (vw60 hk (ro_i (m := 0) (hmn _ (kc hk)) hi c_9))]
                  refine va_lald hx hb hK.1 hP 11 1 rfl rfl (in4 (hok.at hi.1 c_9).2.1) d_Z_runRows_138 ?_
                  rw [show rg1 (vw 60 oa k i.toNatClampNeg).toNatClampNeg = ldF rg1 (vw 60 oa k i.toNatClampNeg) from (ldF1 (hok.at hi.1 c_9).2.1).symm]
                  refine lv_lconst (v := 0) hx hb d_Z_runRows_139 (by decide) ?_
                  refine W.lcmp hx hb d_Z_runRows_140 ?_
                  refine lv_if_eq (tgt := 153) hx hb d_Z_runRows_141 (by decide) (fun c_141 => ?_) (fun c_141 => ?_)
                  · refine lv_iload_n hx hb d_Z_runRows_153 rfl (lv_at hl 0 rfl) ?_
                    refine lv_istore_n (lv' := [(2, .int (i + 1)), (4, .int (vw 60 oo k i.toNatClampNeg)), (3, .int ((60 * k) + i)), (0, .ref z0), (1, .int k)]) hx hb d_Z_runRows_154 rfl hl (by decide) rfl (fun ls hl => ?_)
                    refine lv_goto (tgt := 217) hx hb d_Z_runRows_155 (by decide) ?_
                    refine lv_goto (tgt := 2) hx hb d_Z_runRows_217 (by decide) ?_
                    exact ih (i + 1) rg1 (sp1 + 1) en1 _ _ ls (⟨fun _ => by rw [i32_1 (by omega)]; have := hn.1 c_16; omega, by have := hn.1 c_16; omega⟩) (by rw [i32_1 (by omega)]; have := (ro_i (m := 0) (hmn _ (kc hk)) hi c_9); omega) (by rw [i32_1 (by omega)]; have := ne2000 hs c_41; omega) (Or.inl ⟨c_16, by rw [← hR]; simp only [if_neg c_9, if_pos c_16, if_neg c_41, if_neg c_55, if_neg c_97, if_pos c_125, if_pos c_141]⟩) hP hD hS (lv_sub hl [3, 4, 0] rfl)
                  · refine lv_aload_n hx hb d_Z_runRows_144 rfl (lv_at hl 3 rfl) ?_
                    refine va_get (ci := 5) (v := .ref y4) (C := R_Z) (T := T_Z) (N := 26) hx hb ht in_Z hown hK.1 hP 0 rfl rfl 10 (by decide) (ht _ k_fl_Z_19) (fun _ h9 => h9) rfl d_Z_runRows_145 ?_
                    refine lv_iload_n hx hb d_Z_runRows_148 rfl (lv_at hl 2 rfl) ?_
                    refine va_iald hx hb hK.1 hP 4 0 rfl rfl (in60 hk (ro_i (m := 0) (hmn _ (kc hk)) hi c_9)) d_Z_runRows_149 ?_
                    rw [show ob ((60 * k) + i).toNatClampNeg = vw 60 ob k i.toNatClampNeg from (vw60 hk (ro_i (m := 0) (hmn _ (kc hk)) hi c_9))]
                    refine lv_goto (tgt := 154) hx hb d_Z_runRows_150 (by decide) ?_
                    refine lv_istore_n (lv' := [(2, .int (vw 60 ob k i.toNatClampNeg)), (4, .int (vw 60 oo k i.toNatClampNeg)), (3, .int ((60 * k) + i)), (0, .ref z0), (1, .int k)]) hx hb d_Z_runRows_154 rfl hl (by decide) rfl (fun ls hl => ?_)
                    refine lv_goto (tgt := 217) hx hb d_Z_runRows_155 (by decide) ?_
                    refine lv_goto (tgt := 2) hx hb d_Z_runRows_217 (by decide) ?_
                    exact ih (vw 60 ob k i.toNatClampNeg) rg1 (sp1 + 1) en1 _ _ ls (⟨fun _ => by rw [i32_1 (by omega)]; have := hn.1 c_16; omega, by have := hn.1 c_16; omega⟩) (okI.j (hok.at hi.1 c_9) c_125) (by rw [i32_1 (by omega)]; have := ne2000 hs c_41; omega) (Or.inl ⟨c_16, by rw [← hR]; simp only [if_neg c_9, if_pos c_16, if_neg c_41, if_neg c_55, if_neg c_97, if_pos c_125, if_neg c_141]⟩) hP hD hS (lv_sub hl [3, 4, 0] rfl)
              · refine lv_aload_n hx hb d_Z_runRows_100 rfl (lv_at hl 3 rfl) ?_
                refine va_get (ci := 5) (v := .ref y11) (C := R_Z) (T := T_Z) (N := 26) hx hb ht in_Z hown hK.1 hP 0 rfl rfl 17 (by decide) (ht _ k_fl_Z_40) (fun _ h9 => h9) rfl d_Z_runRows_101 ?_
                refine lv_aload_n hx hb d_Z_runRows_104 rfl (lv_at hl 3 rfl) ?_
                refine va_get (ci := 5) (v := .ref y3) (C := R_Z) (T := T_Z) (N := 26) hx hb ht in_Z hown hK.1 hP 0 rfl rfl 9 (by decide) (ht _ k_fl_Z_16) (fun _ h9 => h9) rfl d_Z_runRows_105 ?_
                refine lv_iload_n hx hb d_Z_runRows_108 rfl (lv_at hl 2 rfl) ?_
                refine va_iald hx hb hK.1 hP 3 0 rfl rfl (in60 hk (ro_i (m := 0) (hmn _ (kc hk)) hi c_9)) d_Z_runRows_109 ?_
                rw [show oa ((60 * k) + i).toNatClampNeg = vw 60 oa k i.toNatClampNeg from (vw60 hk (ro_i (m := 0) (hmn _ (kc hk)) hi c_9))]
                refine lv_aload_n hx hb d_Z_runRows_110 rfl (lv_at hl 3 rfl) ?_
                refine va_get (ci := 5) (v := .ref y4) (C := R_Z) (T := T_Z) (N := 26) hx hb ht in_Z hown hK.1 hP 0 rfl rfl 10 (by decide) (ht _ k_fl_Z_19) (fun _ h9 => h9) rfl d_Z_runRows_111 ?_
                refine lv_iload_n hx hb d_Z_runRows_114 rfl (lv_at hl 2 rfl) ?_
                refine va_iald hx hb hK.1 hP 4 0 rfl rfl (in60 hk (ro_i (m := 0) (hmn _ (kc hk)) hi c_9)) d_Z_runRows_115 ?_
                rw [show ob ((60 * k) + i).toNatClampNeg = vw 60 ob k i.toNatClampNeg from (vw60 hk (ro_i (m := 0) (hmn _ (kc hk)) hi c_9))]
                refine lv_i2l (v := (vw 60 ob k i.toNatClampNeg).toInt64) hx hb d_Z_runRows_116 rfl ?_
                refine va_last hx hb hK.1 hP hD hS 11 1 rfl rfl (in4 (hok.at hi.1 c_9).2.1) d_Z_runRows_117 (fun H locs hP hD hS => ?_)
                have hP : va_P D vwCl ((wZ cI cL z0 y1 y2 y3 y4 y5 y6 y7 y8 y9 y10 y11 y12 y13 y14 mn oo oa ob ss gg zz md sd da (vp_updL rg1 (vw 60 oa k i.toNatClampNeg).toNatClampNeg ((vw 60 ob k i.toNatClampNeg).toInt64)) pp kp ot th li bl nw wr ru al (sp1 + 1) en1 ke kb at0) ++ fr) H := hP
                have hD : va_D A ((wZ cI cL z0 y1 y2 y3 y4 y5 y6 y7 y8 y9 y10 y11 y12 y13 y14 mn oo oa ob ss gg zz md sd da (vp_updL rg1 (vw 60 oa k i.toNatClampNeg).toNatClampNeg ((vw 60 ob k i.toNatClampNeg).toInt64)) pp kp ot th li bl nw wr ru al (sp1 + 1) en1 ke kb at0) ++ fr) := hD
                refine lv_goto (tgt := 217) hx hb d_Z_runRows_118 (by decide) ?_
                refine lv_goto (tgt := 2) hx hb d_Z_runRows_217 (by decide) ?_
                exact ih (i + 1) (vp_updL rg1 (vw 60 oa k i.toNatClampNeg).toNatClampNeg ((vw 60 ob k i.toNatClampNeg).toInt64)) (sp1 + 1) en1 _ _ ls (⟨fun _ => by rw [i32_1 (by omega)]; have := hn.1 c_16; omega, by have := hn.1 c_16; omega⟩) (by rw [i32_1 (by omega)]; have := (ro_i (m := 0) (hmn _ (kc hk)) hi c_9); omega) (by rw [i32_1 (by omega)]; have := ne2000 hs c_41; omega) (Or.inl ⟨c_16, by rw [← hR]; simp only [if_neg c_9, if_pos c_16, if_neg c_41, if_neg c_55, if_pos c_97, stF1 (hok.at hi.1 c_9).2.1, resF, if_neg (show ¬ vw 60 oo k i.toNatClampNeg = 4 by rw [c_97]; decide), if_neg (show ¬ vw 60 oo k i.toNatClampNeg = 6 by rw [c_97]; decide)]⟩) hP hD hS (lv_sub hl [3, 4, 0] rfl)
            · refine lv_aload_n hx hb d_Z_runRows_58 rfl (lv_at hl 2 rfl) ?_
              refine va_get (ci := 5) (v := .ref y11) (C := R_Z) (T := T_Z) (N := 26) hx hb ht in_Z hown hK.1 hP 0 rfl rfl 17 (by decide) (ht _ k_fl_Z_40) (fun _ h9 => h9) rfl d_Z_runRows_59 ?_
              refine lv_aload_n hx hb d_Z_runRows_62 rfl (lv_at hl 2 rfl) ?_
              refine va_get (ci := 5) (v := .ref y4) (C := R_Z) (T := T_Z) (N := 26) hx hb ht in_Z hown hK.1 hP 0 rfl rfl 10 (by decide) (ht _ k_fl_Z_19) (fun _ h9 => h9) rfl d_Z_runRows_63 ?_
              refine lv_iload_n hx hb d_Z_runRows_66 rfl (lv_at hl 1 rfl) ?_
              refine va_iald hx hb hK.1 hP 4 0 rfl rfl (in60 hk (ro_i (m := 0) (hmn _ (kc hk)) hi c_9)) d_Z_runRows_67 ?_
              rw [show ob ((60 * k) + i).toNatClampNeg = vw 60 ob k i.toNatClampNeg from (vw60 hk (ro_i (m := 0) (hmn _ (kc hk)) hi c_9))]
              refine va_lald hx hb hK.1 hP 11 1 rfl rfl (in4 (okI.b (hok.at hi.1 c_9) (by rw [c_55]; decide) (by rw [c_55]; decide))) d_Z_runRows_68 ?_
              rw [show rg1 (vw 60 ob k i.toNatClampNeg).toNatClampNeg = ldF rg1 (vw 60 ob k i.toNatClampNeg) from (ldF1 (okI.b (hok.at hi.1 c_9) (by rw [c_55]; decide) (by rw [c_55]; decide))).symm]
              refine lv_lconst (v := 0) hx hb d_Z_runRows_69 (by decide) ?_
              refine W.lcmp hx hb d_Z_runRows_70 ?_
              refine lv_if_ne (tgt := 82) hx hb d_Z_runRows_71 (by decide) (fun c_71 => ?_) (fun c_71 => ?_)
              · refine lv_aload_n hx hb d_Z_runRows_82 rfl (lv_at hl 2 rfl) ?_
                refine lv_dup hx hb d_Z_runRows_83 rfl ?_
                refine va_get (ci := 5) (v := .int sp1) (C := R_Z) (T := T_Z) (N := 26) hx hb ht in_Z hown hK.1 hP 0 rfl rfl 19 (by decide) (ht _ k_fl_Z_124) (fun _ h9 => h9) rfl d_Z_runRows_84 ?_
                refine lv_iconst (v := 1) hx hb d_Z_runRows_87 (by decide) ?_
                refine lv_iadd hx hb d_Z_runRows_88 ?_
                refine va_put (ci := 5) (v := .int (sp1 + 1)) (ty := .int) (C := R_Z) (T := T_Z) (N := 26) hx hb ht in_Z t_Z t_Z_ok n_Z hown hK.1 hP hD hS 0 rfl rfl 19 (by decide) (ht _ k_fl_Z_124) (fun _ h9 => h9) rfl (by decide +kernel) rfl rfl (Nat.le_of_ble_eq_true rfl) d_Z_runRows_89 (fun H locs hP hD hS => ?_)
                have hP : va_P D vwCl ((wZ cI cL z0 y1 y2 y3 y4 y5 y6 y7 y8 y9 y10 y11 y12 y13 y14 mn oo oa ob ss gg zz md sd da rg1 pp kp ot th li bl nw wr ru al (sp1 + 1) en1 ke kb at0) ++ fr) H := hP
                have hD : va_D A ((wZ cI cL z0 y1 y2 y3 y4 y5 y6 y7 y8 y9 y10 y11 y12 y13 y14 mn oo oa ob ss gg zz md sd da rg1 pp kp ot th li bl nw wr ru al (sp1 + 1) en1 ke kb at0) ++ fr) := hD
                refine lv_iinc (v := i + 1) (lv' := [(2, .int (i + 1)), (4, .int (vw 60 oo k i.toNatClampNeg)), (3, .int ((60 * k) + i)), (0, .ref z0), (1, .int k)]) hx hb d_Z_runRows_92 hl (k := 4) rfl rfl (by decide) rfl (fun ls hl => ?_)
                refine lv_iload hx hb d_Z_runRows_95 (lv_at hl 1 rfl) ?_
                refine lv_if_ne (tgt := 121) hx hb d_Z_runRows_97 (by decide) (fun c_97 => ?_) (fun c_97 => ?_)
                · refine lv_iload hx hb d_Z_runRows_121 (lv_at hl 1 rfl) ?_
                  refine lv_bipush (v := 6) hx hb d_Z_runRows_123 (by decide) ?_
                  refine lv_icmp_ne (tgt := 158) hx hb d_Z_runRows_125 (by decide) (fun c_125 => ?_) (fun c_125 => ?_)
                  · refine lv_aload_n hx hb d_Z_runRows_158 rfl (lv_at hl 3 rfl) ?_
                    refine va_get (ci := 5) (v := .ref y11) (C := R_Z) (T := T_Z) (N := 26) hx hb ht in_Z hown hK.1 hP 0 rfl rfl 17 (by decide) (ht _ k_fl_Z_40) (fun _ h9 => h9) rfl d_Z_runRows_159 ?_
                    refine lv_aload_n hx hb d_Z_runRows_162 rfl (lv_at hl 3 rfl) ?_
                    refine va_get (ci := 5) (v := .ref y3) (C := R_Z) (T := T_Z) (N := 26) hx hb ht in_Z hown hK.1 hP 0 rfl rfl 9 (by decide) (ht _ k_fl_Z_16) (fun _ h9 => h9) rfl d_Z_runRows_163 ?_
                    refine lv_iload_n hx hb d_Z_runRows_166 rfl (lv_at hl 2 rfl) ?_
                    refine va_iald hx hb hK.1 hP 3 0 rfl rfl (in60 hk (ro_i (m := 0) (hmn _ (kc hk)) hi c_9)) d_Z_runRows_167 ?_
                    rw [show oa ((60 * k) + i).toNatClampNeg = vw 60 oa k i.toNatClampNeg from (vw60 hk (ro_i (m := 0) (hmn _ (kc hk)) hi c_9))]
                    refine lv_iload hx hb d_Z_runRows_168 (lv_at hl 1 rfl) ?_
                    refine lv_bipush (v := 6) hx hb d_Z_runRows_170 (by decide) ?_
                    refine lv_icmp_le (tgt := 189) hx hb d_Z_runRows_172 (by decide) (fun c_172 => ?_) (fun c_172 => ?_)
                    · refine lv_iload hx hb d_Z_runRows_189 (lv_at hl 1 rfl) ?_
                      refine lv_aload_n hx hb d_Z_runRows_191 rfl (lv_at hl 3 rfl) ?_
                      refine va_get (ci := 5) (v := .ref y11) (C := R_Z) (T := T_Z) (N := 26) hx hb ht in_Z hown hK.1 hP 0 rfl rfl 17 (by decide) (ht _ k_fl_Z_40) (fun _ h9 => h9) rfl d_Z_runRows_192 ?_
                      refine lv_aload_n hx hb d_Z_runRows_195 rfl (lv_at hl 3 rfl) ?_
                      refine va_get (ci := 5) (v := .ref y3) (C := R_Z) (T := T_Z) (N := 26) hx hb ht in_Z hown hK.1 hP 0 rfl rfl 9 (by decide) (ht _ k_fl_Z_16) (fun _ h9 => h9) rfl d_Z_runRows_196 ?_
                      refine lv_iload_n hx hb d_Z_runRows_199 rfl (lv_at hl 2 rfl) ?_
                      refine va_iald hx hb hK.1 hP 3 0 rfl rfl (in60 hk (ro_i (m := 0) (hmn _ (kc hk)) hi c_9)) d_Z_runRows_200 ?_
                      rw [show oa ((60 * k) + i).toNatClampNeg = vw 60 oa k i.toNatClampNeg from (vw60 hk (ro_i (m := 0) (hmn _ (kc hk)) hi c_9))]
                      refine va_lald hx hb hK.1 hP 11 1 rfl rfl (in4 (hok.at hi.1 c_9).2.1) d_Z_runRows_201 ?_
                      rw [show rg1 (vw 60 oa k i.toNatClampNeg).toNatClampNeg = ldF rg1 (vw 60 oa k i.toNatClampNeg) from (ldF1 (hok.at hi.1 c_9).2.1).symm]
                      refine lv_aload_n hx hb d_Z_runRows_202 rfl (lv_at hl 3 rfl) ?_
                      refine va_get (ci := 5) (v := .ref y11) (C := R_Z) (T := T_Z) (N := 26) hx hb ht in_Z hown hK.1 hP 0 rfl rfl 17 (by decide) (ht _ k_fl_Z_40) (fun _ h9 => h9) rfl d_Z_runRows_203 ?_
                      refine lv_aload_n hx hb d_Z_runRows_206 rfl (lv_at hl 3 rfl) ?_
                      refine va_get (ci := 5) (v := .ref y4) (C := R_Z) (T := T_Z) (N := 26) hx hb ht in_Z hown hK.1 hP 0 rfl rfl 10 (by decide) (ht _ k_fl_Z_19) (fun _ h9 => h9) rfl d_Z_runRows_207 ?_
                      refine lv_iload_n hx hb d_Z_runRows_210 rfl (lv_at hl 2 rfl) ?_
                      refine va_iald hx hb hK.1 hP 4 0 rfl rfl (in60 hk (ro_i (m := 0) (hmn _ (kc hk)) hi c_9)) d_Z_runRows_211 ?_
                      rw [show ob ((60 * k) + i).toNatClampNeg = vw 60 ob k i.toNatClampNeg from (vw60 hk (ro_i (m := 0) (hmn _ (kc hk)) hi c_9))]
                      refine va_lald hx hb hK.1 hP 11 1 rfl rfl (in4 (okI.b (hok.at hi.1 c_9) c_97 c_125)) d_Z_runRows_212 ?_
                      rw [show rg1 (vw 60 ob k i.toNatClampNeg).toNatClampNeg = ldF rg1 (vw 60 ob k i.toNatClampNeg) from (ldF1 (okI.b (hok.at hi.1 c_9) c_97 c_125)).symm]
                      refine goRl (va_runS (As := [.int (vw 60 oo k i.toNatClampNeg), .long (ldF rg1 (vw 60 oa k i.toNatClampNeg)), .long (ldF rg1 (vw 60 ob k i.toNatClampNeg))]) (rest := [.int (vw 60 oa k i.toNatClampNeg), .ref y11]) ⟨hx, hb, hml, hown, hts⟩ (c_Z_result l D cI cL cO (vw 60 oo k i.toNatClampNeg) (ldF rg1 (vw 60 oa k i.toNatClampNeg)) (ldF rg1 (vw 60 ob k i.toNatClampNeg)) (fun _ h => c_71 ((lg_cmp_eq _ _).mpr h))) (cwS 3 hts (gBIG (m3 k_ml_Z_130 k_st_Z_result k_ini_Z) k_co_Z_result) rfl rfl rfl (by decide +kernel) ⟨Nat.le_of_ble_eq_true rfl, Nat.le_of_ble_eq_true rfl⟩) ⟨PR.bl, PR.pre P_nil hK⟩ rfl rfl hl.1 rfl (lv_room (Nat.le_of_ble_eq_true rfl)) d_Z_runRows_213 ⟨Nat.le_of_ble_eq_true rfl, Nat.le_of_ble_eq_true rfl⟩) ?_
                      refine va_last hx hb hK.1 hP hD hS 11 1 rfl rfl (in4 (hok.at hi.1 c_9).2.1) d_Z_runRows_216 (fun H locs hP hD hS => ?_)
                      have hP : va_P D vwCl ((wZ cI cL z0 y1 y2 y3 y4 y5 y6 y7 y8 y9 y10 y11 y12 y13 y14 mn oo oa ob ss gg zz md sd da (vp_updL rg1 (vw 60 oa k i.toNatClampNeg).toNatClampNeg (zreF (vw 60 oo k i.toNatClampNeg) (ldF rg1 (vw 60 oa k i.toNatClampNeg)) (ldF rg1 (vw 60 ob k i.toNatClampNeg)))) pp kp ot th li bl nw wr ru al (sp1 + 1) en1 ke kb at0) ++ fr) H := hP
                      have hD : va_D A ((wZ cI cL z0 y1 y2 y3 y4 y5 y6 y7 y8 y9 y10 y11 y12 y13 y14 mn oo oa ob ss gg zz md sd da (vp_updL rg1 (vw 60 oa k i.toNatClampNeg).toNatClampNeg (zreF (vw 60 oo k i.toNatClampNeg) (ldF rg1 (vw 60 oa k i.toNatClampNeg)) (ldF rg1 (vw 60 ob k i.toNatClampNeg)))) pp kp ot th li bl nw wr ru al (sp1 + 1) en1 ke kb at0) ++ fr) := hD
                      refine lv_goto (tgt := 2) hx hb d_Z_runRows_217 (by decide) ?_
                      exact ih (i + 1) (vp_updL rg1 (vw 60 oa k i.toNatClampNeg).toNatClampNeg (zreF (vw 60 oo k i.toNatClampNeg) (ldF rg1 (vw 60 oa k i.toNatClampNeg)) (ldF rg1 (vw 60 ob k i.toNatClampNeg)))) (sp1 + 1) en1 _ _ ls (⟨fun _ => by rw [i32_1 (by omega)]; have := hn.1 c_16; omega, by have := hn.1 c_16; omega⟩) (by rw [i32_1 (by omega)]; have := (ro_i (m := 0) (hmn _ (kc hk)) hi c_9); omega) (by rw [i32_1 (by omega)]; have := ne2000 hs c_41; omega) (Or.inl ⟨c_16, by rw [← hR]; simp only [if_neg c_9, if_pos c_16, if_neg c_41, if_pos c_55, if_neg c_71, if_neg c_97, if_neg c_125, if_pos c_172, stF1 (hok.at hi.1 c_9).2.1, resF, zre_w (hok.at hi.1 c_9) c_97 c_125 c_172 (fun _ h => c_71 ((lg_cmp_eq _ _).mpr h)), if_neg (show ¬ vw 60 oo k i.toNatClampNeg = 7 from fun z => absurd (z ▸ c_172) (by decide))]⟩) hP hD hS (lv_sub hl [3, 4, 0] rfl)
                    · refine lv_aload_n hx hb d_Z_runRows_175 rfl (lv_at hl 3 rfl) ?_
                      refine va_get (ci := 5) (v := .ref y11) (C := R_Z) (T := T_Z) (N := 26) hx hb ht in_Z hown hK.1 hP 0 rfl rfl 17 (by decide) (ht _ k_fl_Z_40) (fun _ h9 => h9) rfl d_Z_runRows_176 ?_
                      refine lv_aload_n hx hb d_Z_runRows_179 rfl (lv_at hl 3 rfl) ?_
                      refine va_get (ci := 5) (v := .ref y4) (C := R_Z) (T := T_Z) (N := 26) hx hb ht in_Z hown hK.1 hP 0 rfl rfl 10 (by decide) (ht _ k_fl_Z_19) (fun _ h9 => h9) rfl d_Z_runRows_180 ?_
                      refine lv_iload_n hx hb d_Z_runRows_183 rfl (lv_at hl 2 rfl) ?_
                      refine va_iald hx hb hK.1 hP 4 0 rfl rfl (in60 hk (ro_i (m := 0) (hmn _ (kc hk)) hi c_9)) d_Z_runRows_184 ?_
                      rw [show ob ((60 * k) + i).toNatClampNeg = vw 60 ob k i.toNatClampNeg from (vw60 hk (ro_i (m := 0) (hmn _ (kc hk)) hi c_9))]
                      refine va_lald hx hb hK.1 hP 11 1 rfl rfl (in4 (okI.b (hok.at hi.1 c_9) c_97 c_125)) d_Z_runRows_185 ?_
                      rw [show rg1 (vw 60 ob k i.toNatClampNeg).toNatClampNeg = ldF rg1 (vw 60 ob k i.toNatClampNeg) from (ldF1 (okI.b (hok.at hi.1 c_9) c_97 c_125)).symm]
                      refine lv_goto (tgt := 216) hx hb d_Z_runRows_186 (by decide) ?_
                      refine va_last hx hb hK.1 hP hD hS 11 1 rfl rfl (in4 (hok.at hi.1 c_9).2.1) d_Z_runRows_216 (fun H locs hP hD hS => ?_)
                      have hP : va_P D vwCl ((wZ cI cL z0 y1 y2 y3 y4 y5 y6 y7 y8 y9 y10 y11 y12 y13 y14 mn oo oa ob ss gg zz md sd da (vp_updL rg1 (vw 60 oa k i.toNatClampNeg).toNatClampNeg (ldF rg1 (vw 60 ob k i.toNatClampNeg))) pp kp ot th li bl nw wr ru al (sp1 + 1) en1 ke kb at0) ++ fr) H := hP
                      have hD : va_D A ((wZ cI cL z0 y1 y2 y3 y4 y5 y6 y7 y8 y9 y10 y11 y12 y13 y14 mn oo oa ob ss gg zz md sd da (vp_updL rg1 (vw 60 oa k i.toNatClampNeg).toNatClampNeg (ldF rg1 (vw 60 ob k i.toNatClampNeg))) pp kp ot th li bl nw wr ru al (sp1 + 1) en1 ke kb at0) ++ fr) := hD
                      refine lv_goto (tgt := 2) hx hb d_Z_runRows_217 (by decide) ?_
                      exact ih (i + 1) (vp_updL rg1 (vw 60 oa k i.toNatClampNeg).toNatClampNeg (ldF rg1 (vw 60 ob k i.toNatClampNeg))) (sp1 + 1) en1 _ _ ls (⟨fun _ => by rw [i32_1 (by omega)]; have := hn.1 c_16; omega, by have := hn.1 c_16; omega⟩) (by rw [i32_1 (by omega)]; have := (ro_i (m := 0) (hmn _ (kc hk)) hi c_9); omega) (by rw [i32_1 (by omega)]; have := ne2000 hs c_41; omega) (Or.inl ⟨c_16, by rw [← hR]; simp only [if_neg c_9, if_pos c_16, if_neg c_41, if_pos c_55, if_neg c_71, if_neg c_97, if_neg c_125, if_neg c_172, stF1 (hok.at hi.1 c_9).2.1, resF, if_pos (o7 (hok.at hi.1 c_9) c_172), if_neg (show ¬ vw 60 oo k i.toNatClampNeg = 4 by rw [o7 (hok.at hi.1 c_9) c_172]; decide)]⟩) hP hD hS (lv_sub hl [3, 4, 0] rfl)
                  · refine lv_aload_n hx hb d_Z_runRows_128 rfl (lv_at hl 3 rfl) ?_
                    refine va_get (ci := 5) (v := .ref y11) (C := R_Z) (T := T_Z) (N := 26) hx hb ht in_Z hown hK.1 hP 0 rfl rfl 17 (by decide) (ht _ k_fl_Z_40) (fun _ h9 => h9) rfl d_Z_runRows_129 ?_
                    refine lv_aload_n hx hb d_Z_runRows_132 rfl (lv_at hl 3 rfl) ?_
                    refine va_get (ci := 5) (v := .ref y3) (C := R_Z) (T := T_Z) (N := 26) hx hb ht in_Z hown hK.1 hP 0 rfl rfl 9 (by decide) (ht _ k_fl_Z_16) (fun _ h9 => h9) rfl d_Z_runRows_133 ?_
                    refine lv_iload_n hx hb d_Z_runRows_136 rfl (lv_at hl 2 rfl) ?_
                    refine va_iald hx hb hK.1 hP 3 0 rfl rfl (in60 hk (ro_i (m := 0) (hmn _ (kc hk)) hi c_9)) d_Z_runRows_137 ?_
                    rw [show oa ((60 * k) + i).toNatClampNeg = vw 60 oa k i.toNatClampNeg from (vw60 hk (ro_i (m := 0) (hmn _ (kc hk)) hi c_9))]
                    refine va_lald hx hb hK.1 hP 11 1 rfl rfl (in4 (hok.at hi.1 c_9).2.1) d_Z_runRows_138 ?_
                    rw [show rg1 (vw 60 oa k i.toNatClampNeg).toNatClampNeg = ldF rg1 (vw 60 oa k i.toNatClampNeg) from (ldF1 (hok.at hi.1 c_9).2.1).symm]
                    refine lv_lconst (v := 0) hx hb d_Z_runRows_139 (by decide) ?_
                    refine W.lcmp hx hb d_Z_runRows_140 ?_
                    refine lv_if_eq (tgt := 153) hx hb d_Z_runRows_141 (by decide) (fun c_141 => ?_) (fun c_141 => ?_)
                    · refine lv_iload_n hx hb d_Z_runRows_153 rfl (lv_at hl 0 rfl) ?_
                      refine lv_istore_n (lv' := [(2, .int (i + 1)), (4, .int (vw 60 oo k i.toNatClampNeg)), (3, .int ((60 * k) + i)), (0, .ref z0), (1, .int k)]) hx hb d_Z_runRows_154 rfl hl (by decide) rfl (fun ls hl => ?_)
                      refine lv_goto (tgt := 217) hx hb d_Z_runRows_155 (by decide) ?_
                      refine lv_goto (tgt := 2) hx hb d_Z_runRows_217 (by decide) ?_
                      exact ih (i + 1) rg1 (sp1 + 1) en1 _ _ ls (⟨fun _ => by rw [i32_1 (by omega)]; have := hn.1 c_16; omega, by have := hn.1 c_16; omega⟩) (by rw [i32_1 (by omega)]; have := (ro_i (m := 0) (hmn _ (kc hk)) hi c_9); omega) (by rw [i32_1 (by omega)]; have := ne2000 hs c_41; omega) (absurd (c_55.symm.trans c_125) (by decide)) hP hD hS (lv_sub hl [3, 4, 0] rfl)
                    · refine lv_aload_n hx hb d_Z_runRows_144 rfl (lv_at hl 3 rfl) ?_
                      refine va_get (ci := 5) (v := .ref y4) (C := R_Z) (T := T_Z) (N := 26) hx hb ht in_Z hown hK.1 hP 0 rfl rfl 10 (by decide) (ht _ k_fl_Z_19) (fun _ h9 => h9) rfl d_Z_runRows_145 ?_
                      refine lv_iload_n hx hb d_Z_runRows_148 rfl (lv_at hl 2 rfl) ?_
                      refine va_iald hx hb hK.1 hP 4 0 rfl rfl (in60 hk (ro_i (m := 0) (hmn _ (kc hk)) hi c_9)) d_Z_runRows_149 ?_
                      rw [show ob ((60 * k) + i).toNatClampNeg = vw 60 ob k i.toNatClampNeg from (vw60 hk (ro_i (m := 0) (hmn _ (kc hk)) hi c_9))]
                      refine lv_goto (tgt := 154) hx hb d_Z_runRows_150 (by decide) ?_
                      refine lv_istore_n (lv' := [(2, .int (vw 60 ob k i.toNatClampNeg)), (4, .int (vw 60 oo k i.toNatClampNeg)), (3, .int ((60 * k) + i)), (0, .ref z0), (1, .int k)]) hx hb d_Z_runRows_154 rfl hl (by decide) rfl (fun ls hl => ?_)
                      refine lv_goto (tgt := 217) hx hb d_Z_runRows_155 (by decide) ?_
                      refine lv_goto (tgt := 2) hx hb d_Z_runRows_217 (by decide) ?_
                      exact ih (vw 60 ob k i.toNatClampNeg) rg1 (sp1 + 1) en1 _ _ ls (⟨fun _ => by rw [i32_1 (by omega)]; have := hn.1 c_16; omega, by have := hn.1 c_16; omega⟩) (okI.j (hok.at hi.1 c_9) c_125) (by rw [i32_1 (by omega)]; have := ne2000 hs c_41; omega) (absurd (c_55.symm.trans c_125) (by decide)) hP hD hS (lv_sub hl [3, 4, 0] rfl)
                · refine lv_aload_n hx hb d_Z_runRows_100 rfl (lv_at hl 3 rfl) ?_
                  refine va_get (ci := 5) (v := .ref y11) (C := R_Z) (T := T_Z) (N := 26) hx hb ht in_Z hown hK.1 hP 0 rfl rfl 17 (by decide) (ht _ k_fl_Z_40) (fun _ h9 => h9) rfl d_Z_runRows_101 ?_
                  refine lv_aload_n hx hb d_Z_runRows_104 rfl (lv_at hl 3 rfl) ?_
                  refine va_get (ci := 5) (v := .ref y3) (C := R_Z) (T := T_Z) (N := 26) hx hb ht in_Z hown hK.1 hP 0 rfl rfl 9 (by decide) (ht _ k_fl_Z_16) (fun _ h9 => h9) rfl d_Z_runRows_105 ?_
                  refine lv_iload_n hx hb d_Z_runRows_108 rfl (lv_at hl 2 rfl) ?_
                  refine va_iald hx hb hK.1 hP 3 0 rfl rfl (in60 hk (ro_i (m := 0) (hmn _ (kc hk)) hi c_9)) d_Z_runRows_109 ?_
                  rw [show oa ((60 * k) + i).toNatClampNeg = vw 60 oa k i.toNatClampNeg from (vw60 hk (ro_i (m := 0) (hmn _ (kc hk)) hi c_9))]
                  refine lv_aload_n hx hb d_Z_runRows_110 rfl (lv_at hl 3 rfl) ?_
                  refine va_get (ci := 5) (v := .ref y4) (C := R_Z) (T := T_Z) (N := 26) hx hb ht in_Z hown hK.1 hP 0 rfl rfl 10 (by decide) (ht _ k_fl_Z_19) (fun _ h9 => h9) rfl d_Z_runRows_111 ?_
                  refine lv_iload_n hx hb d_Z_runRows_114 rfl (lv_at hl 2 rfl) ?_
                  refine va_iald hx hb hK.1 hP 4 0 rfl rfl (in60 hk (ro_i (m := 0) (hmn _ (kc hk)) hi c_9)) d_Z_runRows_115 ?_
                  rw [show ob ((60 * k) + i).toNatClampNeg = vw 60 ob k i.toNatClampNeg from (vw60 hk (ro_i (m := 0) (hmn _ (kc hk)) hi c_9))]
                  refine lv_i2l (v := (vw 60 ob k i.toNatClampNeg).toInt64) hx hb d_Z_runRows_116 rfl ?_
                  refine va_last hx hb hK.1 hP hD hS 11 1 rfl rfl (in4 (hok.at hi.1 c_9).2.1) d_Z_runRows_117 (fun H locs hP hD hS => ?_)
                  have hP : va_P D vwCl ((wZ cI cL z0 y1 y2 y3 y4 y5 y6 y7 y8 y9 y10 y11 y12 y13 y14 mn oo oa ob ss gg zz md sd da (vp_updL rg1 (vw 60 oa k i.toNatClampNeg).toNatClampNeg ((vw 60 ob k i.toNatClampNeg).toInt64)) pp kp ot th li bl nw wr ru al (sp1 + 1) en1 ke kb at0) ++ fr) H := hP
                  have hD : va_D A ((wZ cI cL z0 y1 y2 y3 y4 y5 y6 y7 y8 y9 y10 y11 y12 y13 y14 mn oo oa ob ss gg zz md sd da (vp_updL rg1 (vw 60 oa k i.toNatClampNeg).toNatClampNeg ((vw 60 ob k i.toNatClampNeg).toInt64)) pp kp ot th li bl nw wr ru al (sp1 + 1) en1 ke kb at0) ++ fr) := hD
                  refine lv_goto (tgt := 217) hx hb d_Z_runRows_118 (by decide) ?_
                  refine lv_goto (tgt := 2) hx hb d_Z_runRows_217 (by decide) ?_
                  exact ih (i + 1) (vp_updL rg1 (vw 60 oa k i.toNatClampNeg).toNatClampNeg ((vw 60 ob k i.toNatClampNeg).toInt64)) (sp1 + 1) en1 _ _ ls (⟨fun _ => by rw [i32_1 (by omega)]; have := hn.1 c_16; omega, by have := hn.1 c_16; omega⟩) (by rw [i32_1 (by omega)]; have := (ro_i (m := 0) (hmn _ (kc hk)) hi c_9); omega) (by rw [i32_1 (by omega)]; have := ne2000 hs c_41; omega) (Or.inl ⟨c_16, by rw [← hR]; simp only [if_neg c_9, if_pos c_16, if_neg c_41, if_pos c_55, if_neg c_71, if_pos c_97, stF1 (hok.at hi.1 c_9).2.1, resF, if_neg (show ¬ vw 60 oo k i.toNatClampNeg = 4 by rw [c_97]; decide), if_neg (show ¬ vw 60 oo k i.toNatClampNeg = 6 by rw [c_97]; decide)]⟩) hP hD hS (lv_sub hl [3, 4, 0] rfl)
              · refine lv_aload_n hx hb d_Z_runRows_74 rfl (lv_at hl 2 rfl) ?_
                refine lv_iconst (v := 1) hx hb d_Z_runRows_75 (by decide) ?_
                refine va_put (ci := 5) (v := .int 1) (ty := .int) (C := R_Z) (T := T_Z) (N := 26) hx hb ht in_Z t_Z t_Z_ok n_Z hown hK.1 hP hD hS 0 rfl rfl 20 (by decide) (ht _ k_fl_Z_127) (fun _ h9 => h9) rfl (by decide +kernel) rfl rfl (Nat.le_of_ble_eq_true rfl) d_Z_runRows_76 (fun H locs hP hD hS => ?_)
                have hP : va_P D vwCl ((wZ cI cL z0 y1 y2 y3 y4 y5 y6 y7 y8 y9 y10 y11 y12 y13 y14 mn oo oa ob ss gg zz md sd da rg1 pp kp ot th li bl nw wr ru al sp1 1 ke kb at0) ++ fr) H := hP
                have hD : va_D A ((wZ cI cL z0 y1 y2 y3 y4 y5 y6 y7 y8 y9 y10 y11 y12 y13 y14 mn oo oa ob ss gg zz md sd da rg1 pp kp ot th li bl nw wr ru al sp1 1 ke kb at0) ++ fr) := hD
                refine lv_goto (tgt := 217) hx hb d_Z_runRows_79 (by decide) ?_
                refine lv_goto (tgt := 2) hx hb d_Z_runRows_217 (by decide) ?_
                exact ih i rg1 sp1 1 _ _ ls (⟨fun h => absurd h (by decide), by have := hn.1 c_16; omega⟩) hi hs (Or.inr ⟨by decide, by rw [← hR]; simp only [if_neg c_9, if_pos c_16, if_neg c_41, if_pos c_55, if_pos c_71]⟩) hP hD hS (lv_sub hl [2, 3, 4] rfl)
          · refine lv_aload_n hx hb d_Z_runRows_44 rfl (lv_at hl 2 rfl) ?_
            refine lv_iconst (v := 2) hx hb d_Z_runRows_45 (by decide) ?_
            refine va_put (ci := 5) (v := .int 2) (ty := .int) (C := R_Z) (T := T_Z) (N := 26) hx hb ht in_Z t_Z t_Z_ok n_Z hown hK.1 hP hD hS 0 rfl rfl 20 (by decide) (ht _ k_fl_Z_127) (fun _ h9 => h9) rfl (by decide +kernel) rfl rfl (Nat.le_of_ble_eq_true rfl) d_Z_runRows_46 (fun H locs hP hD hS => ?_)
            have hP : va_P D vwCl ((wZ cI cL z0 y1 y2 y3 y4 y5 y6 y7 y8 y9 y10 y11 y12 y13 y14 mn oo oa ob ss gg zz md sd da rg1 pp kp ot th li bl nw wr ru al sp1 2 ke kb at0) ++ fr) H := hP
            have hD : va_D A ((wZ cI cL z0 y1 y2 y3 y4 y5 y6 y7 y8 y9 y10 y11 y12 y13 y14 mn oo oa ob ss gg zz md sd da rg1 pp kp ot th li bl nw wr ru al sp1 2 ke kb at0) ++ fr) := hD
            refine lv_goto (tgt := 217) hx hb d_Z_runRows_49 (by decide) ?_
            refine lv_goto (tgt := 2) hx hb d_Z_runRows_217 (by decide) ?_
            exact ih i rg1 sp1 2 _ _ ls (⟨fun h => absurd h (by decide), by have := hn.1 c_16; omega⟩) hi hs (Or.inr ⟨by decide, by rw [← hR]; simp only [if_neg c_9, if_pos c_16, if_pos c_41]⟩) hP hD hS (lv_sub hl [2, 3, 4] rfl)
  exact lp 2002 0 rg sp en _ _ ls (⟨fun _ => by rw [hsp]; decide, by decide⟩) (by decide) (by rw [hsp]; decide) (Or.inl ⟨hen, by rw [hsp]; rfl⟩) hP hD hS (lv_sub hl [1, 2, 0] rfl)
