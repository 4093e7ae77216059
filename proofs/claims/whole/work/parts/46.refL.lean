/-- handed blocks have bytes that are right -/
def okH (ss zz md : Fn) : Prop := ∀ k : Int32, 0 ≤ k.toInt ∧ k.toInt < 24 ∧ True → ss k.toNatClampNeg = 2 → vdF (vw 300 md k) (zz k.toNatClampNeg) = 0
def zrnP (k bl : Int32) (mn oo oa ob ss zz md : Fn) (x y : Int64) (pp kp : FL) (ke kb ru al r th : Int32) (kp' : FL) (ke' kb' ru' al' : Int32) : Prop :=
  (wiF k 0 (bl - 1) = 0 ∧ r = 0 ∧ th = 1 ∧ kp' = kp ∧ ke' = ke ∧ kb' = kb ∧ ru' = ru ∧ al' = al) ∨
  (¬ wiF k 0 (bl - 1) = 0 ∧ th = 0 ∧ ru' = ru + 1 ∧ al' = al + r ∧
    ((ss k.toNatClampNeg = 2 ∧ kb' = 1 ∧ kp' = (byL (vw 300 md k) (zz k.toNatClampNeg) 600301 0 0 (begR x y) (pp, 0) 0).1 ∧ r = (byL (vw 300 md k) (zz k.toNatClampNeg) 600301 0 0 (begR x y) (pp, 0) 0).2.2.1 ∧ ke' = (byL (vw 300 md k) (zz k.toNatClampNeg) 600301 0 0 (begR x y) (pp, 0) 0).2.2.2) ∨ (¬ ss k.toNatClampNeg = 2 ∧ kb' = 0 ∧ (kp', r, ke') = roL (vw 60 oo k) (vw 60 oa k) (vw 60 ob k) (mn k.toNatClampNeg) 2001 0 (begR x y) 0)))
theorem cp_s {f : FL} {R : FL} {i : Int32} (h0 : 0 ≤ i.toInt) (h1 : i.toInt < 2147483647) (h : ∀ j : Nat, (j : Int) < i.toInt → f j = R j) (j : Nat) (hj : (j : Int) < (i + 1).toInt) : vp_updL f i.toNatClampNeg (R i.toNatClampNeg) j = R j := by
  rw [i32_1 h1] at hj
  have := clN h0
  by_cases e : j = i.toNatClampNeg
  · rw [e]; exact pk_uLs
  · rw [pk_uLn e]; exact h j (by omega)

abbrev w_Z_run : List Cond := .code y_Z_run b_Z_run 7 (some .int) :: BIG
set_option maxHeartbeats 1000000 in
set_option maxRecDepth 100000 in
theorem c_Z_run (l : Launch) (D : va_G) (cI cL cO : ClassId) (z0 : Nat) (y1 : Nat) (y2 : Nat) (y3 : Nat) (y4 : Nat) (y5 : Nat) (y6 : Nat) (y7 : Nat) (y8 : Nat) (y9 : Nat) (y10 : Nat) (y11 : Nat) (y12 : Nat) (y13 : Nat) (y14 : Nat) (mn : Fn) (oo : Fn) (oa : Fn) (ob : Fn) (ss : Fn) (gg : Fn) (zz : Fn) (md : Fn) (sd : Fn) (da : Fn) (rg : FL) (pp : FL) (kp : FL) (ot : FL) (th : Int32) (li : Int32) (bl : Int32) (nw : Int32) (wr : Int32) (ru : Int32) (al : Int32) (sp : Int32) (en : Int32) (ke : Int32) (kb : Int32) (at0 : Int32) (fr : va_W) (k : Int32) (x : Int64) (y : Int64) (hbl : 0 ≤ bl.toInt ∧ bl.toInt ≤ 24) (hmn : ∀ j, j < 24 → 0 ≤ (mn j).toInt ∧ (mn j).toInt ≤ 60) (hzz : ∀ j, j < 24 → 0 ≤ (zz j).toInt ∧ (zz j).toInt ≤ 300) (hY7 : okY7 md) (hokA : okA mn oo oa ob) (hH : okH ss zz md) : CMi l y_Z_run w_Z_run ({ frames := 2, cells := 0, slots := 0, locals := 51 }) D cI cL cO [.ref z0, .int k, .long x, .long y] ((wZ cI cL z0 y1 y2 y3 y4 y5 y6 y7 y8 y9 y10 y11 y12 y13 y14 mn oo oa ob ss gg zz md sd da rg pp kp ot th li bl nw wr ru al sp en ke kb at0) ++ fr) (fun (r : Int32) (u : Int32 × FL × FL × Int32 × Int32 × FL × Int32 × Int32 × Int32 × Int32) => zrnP k bl mn oo oa ob ss zz md x y pp kp ke kb ru al r u.1 u.2.2.2.2.2.1 u.2.2.2.2.2.2.1 u.2.2.2.2.2.2.2.1 u.2.2.2.2.2.2.2.2.1 u.2.2.2.2.2.2.2.2.2) (fun u : Int32 × FL × FL × Int32 × Int32 × FL × Int32 × Int32 × Int32 × Int32 => ((wZ cI cL z0 y1 y2 y3 y4 y5 y6 y7 y8 y9 y10 y11 y12 y13 y14 mn oo oa ob ss gg zz md sd da u.2.1 u.2.2.1 u.2.2.2.2.2.1 ot u.1 li bl nw wr u.2.2.2.2.2.2.2.2.1 u.2.2.2.2.2.2.2.2.2 u.2.2.2.1 u.2.2.2.2.1 u.2.2.2.2.2.2.1 u.2.2.2.2.2.2.2.1 at0) ++ fr)) 0 0 := by
  refine ofMi (cc := b_Z_run) (maxL := 7) (ret := (some .int)) (by decide) rfl (Nat.le_of_ble_eq_true rfl) ?_
  intro p e s m below meth c A ls H Q hQ hx hb hr hlocks hin hts hown hml hP hK hD hS hA hl
  have hl : lv_has ls 7 [(0, .ref z0), (1, .int k), (2, .long x), (4, .long y)] := hl
  have hown : s.vm.findClass R_Z = some m.cls := hown
  have ht : ∀ w ∈ BIG, w.before _ s = true := fun w h => hts w (List.mem_cons_of_mem _ h)
  refine lv_aload_n hx hb d_Z_run_0 rfl (lv_at hl 0 rfl) ?_
  refine lv_iload_n hx hb d_Z_run_1 rfl (lv_at hl 1 rfl) ?_
  refine goMi (va_runV (As := [.int k]) (rest := []) ⟨hx, hb, hml, hown, hts⟩ (c_Z_isBlock l D cI cL cO z0 y1 y2 y3 y4 y5 y6 y7 y8 y9 y10 y11 y12 y13 y14 mn oo oa ob ss gg zz md sd da rg pp kp ot th li bl nw wr ru al sp en ke kb at0 fr k H.size) (cwV 1 hts (gBIG (m4 k_ml_Z_71 k_im_Z_isBlock k_sel_Z_isBlock k_ini_Z) k_co_Z_isBlock) rfl rfl rfl (by decide +kernel) ⟨Nat.le_of_ble_eq_true rfl, Nat.le_of_ble_eq_true rfl⟩) ⟨PM.bl, va_recv hK.1 hP (ci := 5) (q0 := 0) rfl rfl, PM.pre hP hD hK⟩ rfl rfl hl.1 rfl (lv_room (Nat.le_of_ble_eq_true rfl)) d_Z_run_2 ⟨Nat.le_of_ble_eq_true rfl, Nat.le_of_ble_eq_true rfl⟩) hD hS hA (fun r_2 u H locs hw hP hD hS => ?_)
  obtain ⟨rfl, rfl⟩ := hw
  have hP : va_P D vwCl ((wZ cI cL z0 y1 y2 y3 y4 y5 y6 y7 y8 y9 y10 y11 y12 y13 y14 mn oo oa ob ss gg zz md sd da rg pp kp ot (if wiF k 0 (bl - 1) = 0 then 1 else 0) li bl nw wr ru al sp en ke kb at0) ++ fr) H := hP
  have hD : va_D A ((wZ cI cL z0 y1 y2 y3 y4 y5 y6 y7 y8 y9 y10 y11 y12 y13 y14 mn oo oa ob ss gg zz md sd da rg pp kp ot (if wiF k 0 (bl - 1) = 0 then 1 else 0) li bl nw wr ru al sp en ke kb at0) ++ fr) := hD
  refine lv_if_ne (tgt := 10) hx hb d_Z_run_5 (by decide) (fun c_5 => ?_) (fun c_5 => ?_)
  · refine lv_aload_n hx hb d_Z_run_10 rfl (lv_at hl 0 rfl) ?_
    refine lv_lload_n hx hb d_Z_run_11 rfl (lv_at hl 2 rfl) ?_
    refine lv_lload hx hb d_Z_run_12 (lv_at hl 3 rfl) ?_
    refine goMv (va_runV (As := [.long x, .long y]) (rest := []) ⟨hx, hb, hml, hown, hts⟩ (c_Z_begin l D cI cL cO z0 y1 y2 y3 y4 y5 y6 y7 y8 y9 y10 y11 y12 y13 y14 mn oo oa ob ss gg zz md sd da rg pp kp ot (if wiF k 0 (bl - 1) = 0 then 1 else 0) li bl nw wr ru al sp en ke kb at0 fr x y H.size) (cwV 2 hts (gBIG (m4 k_ml_Z_137 k_im_Z_begin k_sel_Z_begin k_ini_Z) k_co_Z_begin) rfl rfl rfl (by decide +kernel) ⟨Nat.le_of_ble_eq_true rfl, Nat.le_of_ble_eq_true rfl⟩) ⟨PM.bl, va_recv hK.1 hP (ci := 5) (q0 := 0) rfl rfl, PM.pre hP hD hK⟩ rfl rfl hl.1 rfl (lv_room (Nat.le_of_ble_eq_true rfl)) d_Z_run_14 ⟨Nat.le_of_ble_eq_true rfl, Nat.le_of_ble_eq_true rfl⟩) hD hS hA (fun u H locs hw hP hD hS => ?_)
    obtain rfl := hw
    have hP : va_P D vwCl ((wZ cI cL z0 y1 y2 y3 y4 y5 y6 y7 y8 y9 y10 y11 y12 y13 y14 mn oo oa ob ss gg zz md sd da (begR x y) pp kp ot (if wiF k 0 (bl - 1) = 0 then 1 else 0) li bl nw wr ru al 0 0 ke kb at0) ++ fr) H := hP
    have hD : va_D A ((wZ cI cL z0 y1 y2 y3 y4 y5 y6 y7 y8 y9 y10 y11 y12 y13 y14 mn oo oa ob ss gg zz md sd da (begR x y) pp kp ot (if wiF k 0 (bl - 1) = 0 then 1 else 0) li bl nw wr ru al 0 0 ke kb at0) ++ fr) := hD
    refine lv_aload_n hx hb d_Z_run_17 rfl (lv_at hl 0 rfl) ?_
    refine lv_aload_n hx hb d_Z_run_18 rfl (lv_at hl 0 rfl) ?_
    refine va_get (ci := 5) (v := .ref y5) (C := R_Z) (T := T_Z) (N := 26) hx hb ht in_Z hown hK.1 hP 0 rfl rfl 11 (by decide) (ht _ k_fl_Z_22) (fun _ h9 => h9) rfl d_Z_run_19 ?_
    refine lv_iload_n hx hb d_Z_run_22 rfl (lv_at hl 1 rfl) ?_
    refine va_iald hx hb hK.1 hP 5 0 rfl rfl (in_k (k_t (wi_k hbl c_5))) d_Z_run_23 ?_
    refine lv_iconst (v := 2) hx hb d_Z_run_24 (by decide) ?_
    refine lv_icmp_ne (tgt := 32) hx hb d_Z_run_25 (by decide) (fun c_25 => ?_) (fun c_25 => ?_)
    · refine lv_iconst (v := 0) hx hb d_Z_run_32 (by decide) ?_
      refine va_put (ci := 5) (v := .int 0) (ty := .boolean) (C := R_Z) (T := T_Z) (N := 26) hx hb ht in_Z t_Z t_Z_ok n_Z hown hK.1 hP hD hS 0 rfl rfl 24 (by decide) (ht _ k_fl_Z_141) (fun _ h9 => h9) rfl (by decide +kernel) rfl rfl (Nat.le_of_ble_eq_true rfl) d_Z_run_33 (fun H locs hP hD hS => ?_)
      have hP : va_P D vwCl ((wZ cI cL z0 y1 y2 y3 y4 y5 y6 y7 y8 y9 y10 y11 y12 y13 y14 mn oo oa ob ss gg zz md sd da (begR x y) pp kp ot (if wiF k 0 (bl - 1) = 0 then 1 else 0) li bl nw wr ru al 0 0 ke 0 at0) ++ fr) H := hP
      have hD : va_D A ((wZ cI cL z0 y1 y2 y3 y4 y5 y6 y7 y8 y9 y10 y11 y12 y13 y14 mn oo oa ob ss gg zz md sd da (begR x y) pp kp ot (if wiF k 0 (bl - 1) = 0 then 1 else 0) li bl nw wr ru al 0 0 ke 0 at0) ++ fr) := hD
      refine lv_aload_n hx hb d_Z_run_36 rfl (lv_at hl 0 rfl) ?_
      refine va_get (ci := 5) (v := .int 0) (C := R_Z) (T := T_Z) (N := 26) hx hb ht in_Z hown hK.1 hP 0 rfl rfl 24 (by decide) (ht _ k_fl_Z_141) (fun _ h9 => h9) rfl d_Z_run_37 ?_
      refine lv_if_eq (tgt := 51) hx hb d_Z_run_40 (by decide) (fun c_40 => ?_) (fun c_40 => ?_)
      · refine lv_aload_n hx hb d_Z_run_51 rfl (lv_at hl 0 rfl) ?_
        refine lv_iload_n hx hb d_Z_run_52 rfl (lv_at hl 1 rfl) ?_
        refine goMv (va_runV (As := [.int k]) (rest := []) ⟨hx, hb, hml, hown, hts⟩ (c_Z_runRows l D cI cL cO z0 y1 y2 y3 y4 y5 y6 y7 y8 y9 y10 y11 y12 y13 y14 mn oo oa ob ss gg zz md sd da (begR x y) pp kp ot (if wiF k 0 (bl - 1) = 0 then 1 else 0) li bl nw wr ru al 0 0 ke 0 at0 fr k hmn (k_t (wi_k hbl c_5)) (hokA k (k_t (wi_k hbl c_5))) rfl rfl H.size) (cwV 1 hts (gBIG (m4 k_ml_Z_149 k_im_Z_runRows k_sel_Z_runRows k_ini_Z) k_co_Z_runRows) rfl rfl rfl (by decide +kernel) ⟨Nat.le_of_ble_eq_true rfl, Nat.le_of_ble_eq_true rfl⟩) ⟨PM.bl, va_recv hK.1 hP (ci := 5) (q0 := 0) rfl rfl, PM.pre hP hD hK⟩ rfl rfl hl.1 rfl (lv_room (Nat.le_of_ble_eq_true rfl)) d_Z_run_53 ⟨Nat.le_of_ble_eq_true rfl, Nat.le_of_ble_eq_true rfl⟩) hD hS hA (fun u H locs hw hP hD hS => ?_)
        obtain ⟨rg_53, sp_53, en_53⟩ := u
        have e_53 : (rg_53, sp_53, en_53) = roL (vw 60 oo k) (vw 60 oa k) (vw 60 ob k) (mn k.toNatClampNeg) 2001 0 (begR x y) 0 := hw
        have hP : va_P D vwCl ((wZ cI cL z0 y1 y2 y3 y4 y5 y6 y7 y8 y9 y10 y11 y12 y13 y14 mn oo oa ob ss gg zz md sd da rg_53 pp kp ot (if wiF k 0 (bl - 1) = 0 then 1 else 0) li bl nw wr ru al sp_53 en_53 ke 0 at0) ++ fr) H := hP
        have hD : va_D A ((wZ cI cL z0 y1 y2 y3 y4 y5 y6 y7 y8 y9 y10 y11 y12 y13 y14 mn oo oa ob ss gg zz md sd da rg_53 pp kp ot (if wiF k 0 (bl - 1) = 0 then 1 else 0) li bl nw wr ru al sp_53 en_53 ke 0 at0) ++ fr) := hD
        refine lv_iconst (v := 0) hx hb d_Z_run_56 (by decide) ?_
        refine lv_istore (lv' := [(6, .int 0), (0, .ref z0), (1, .int k), (2, .long x), (4, .long y)]) hx hb d_Z_run_57 hl (by decide) rfl (fun ls hl => ?_)
        have lp : ∀ (n : Nat) (i : Int32) (kp1 : FL) (H : Heap) (locs : List Loc) (ls : Array Slot), (i.toInt + (n : Int) = 5) → (0 ≤ i.toInt ∧ i.toInt ≤ 4) → (∀ j : Nat, (j : Int) < i.toInt → kp1 j = rg_53 j) → va_P D vwCl ((wZ cI cL z0 y1 y2 y3 y4 y5 y6 y7 y8 y9 y10 y11 y12 y13 y14 mn oo oa ob ss gg zz md sd da rg_53 pp kp1 ot (if wiF k 0 (bl - 1) = 0 then 1 else 0) li bl nw wr ru al sp_53 en_53 ke 0 at0) ++ fr) H → va_D A ((wZ cI cL z0 y1 y2 y3 y4 y5 y6 y7 y8 y9 y10 y11 y12 y13 y14 mn oo oa ob ss gg zz md sd da rg_53 pp kp1 ot (if wiF k 0 (bl - 1) = 0 then 1 else 0) li bl nw wr ru al sp_53 en_53 ke 0 at0) ++ fr) → va_S A s.heap H locs → lv_has ls 7 [(0, .ref z0), (1, .int k), (2, .long x), (4, .long y), (6, .int i)] → W p l e ({ frames := 2, cells := 0, slots := 0, locals := 51 } : Room) s m ([.ref z0, .int k, .long x, .long y] : List Value).toArray below meth c H locs 0 0 Q (F0 m 59 ls []) := by
          intro n
          induction n with
          | zero =>
            intro i kp1 H locs ls hn hi hf hP hD hS hl
            exact absurd hn (by omega)
          | succ n ih =>
            intro i kp1 H locs ls hn hi hf hP hD hS hl
            refine lv_iload hx hb d_Z_run_59 (lv_at hl 4 rfl) ?_
            refine lv_iconst (v := 4) hx hb d_Z_run_61 (by decide) ?_
            refine lv_icmp_ge (tgt := 85) hx hb d_Z_run_62 (by decide) (fun c_62 => ?_) (fun c_62 => ?_)
            · have hP := P_rep 13 rfl (fun j hj => hf j (by have := i_le4 c_62; omega)) hD hP
              have hP : va_P D vwCl ((wZ cI cL z0 y1 y2 y3 y4 y5 y6 y7 y8 y9 y10 y11 y12 y13 y14 mn oo oa ob ss gg zz md sd da rg_53 pp rg_53 ot (if wiF k 0 (bl - 1) = 0 then 1 else 0) li bl nw wr ru al sp_53 en_53 ke 0 at0) ++ fr) H := hP
              have hD : va_D A ((wZ cI cL z0 y1 y2 y3 y4 y5 y6 y7 y8 y9 y10 y11 y12 y13 y14 mn oo oa ob ss gg zz md sd da rg_53 pp rg_53 ot (if wiF k 0 (bl - 1) = 0 then 1 else 0) li bl nw wr ru al sp_53 en_53 ke 0 at0) ++ fr) := va_D.set (p := 13) hD rfl
              refine lv_aload_n hx hb d_Z_run_85 rfl (lv_at hl 0 rfl) ?_
              refine lv_aload_n hx hb d_Z_run_86 rfl (lv_at hl 0 rfl) ?_
              refine va_get (ci := 5) (v := .int en_53) (C := R_Z) (T := T_Z) (N := 26) hx hb ht in_Z hown hK.1 hP 0 rfl rfl 20 (by decide) (ht _ k_fl_Z_127) (fun _ h9 => h9) rfl d_Z_run_87 ?_
              refine va_put (ci := 5) (v := .int en_53) (ty := .int) (C := R_Z) (T := T_Z) (N := 26) hx hb ht in_Z t_Z t_Z_ok n_Z hown hK.1 hP hD hS 0 rfl rfl 23 (by decide) (ht _ k_fl_Z_152) (fun _ h9 => h9) rfl (by decide +kernel) rfl rfl (Nat.le_of_ble_eq_true rfl) d_Z_run_90 (fun H locs hP hD hS => ?_)
              have hP : va_P D vwCl ((wZ cI cL z0 y1 y2 y3 y4 y5 y6 y7 y8 y9 y10 y11 y12 y13 y14 mn oo oa ob ss gg zz md sd da rg_53 pp rg_53 ot (if wiF k 0 (bl - 1) = 0 then 1 else 0) li bl nw wr ru al sp_53 en_53 en_53 0 at0) ++ fr) H := hP
              have hD : va_D A ((wZ cI cL z0 y1 y2 y3 y4 y5 y6 y7 y8 y9 y10 y11 y12 y13 y14 mn oo oa ob ss gg zz md sd da rg_53 pp rg_53 ot (if wiF k 0 (bl - 1) = 0 then 1 else 0) li bl nw wr ru al sp_53 en_53 en_53 0 at0) ++ fr) := hD
              refine lv_aload_n hx hb d_Z_run_93 rfl (lv_at hl 0 rfl) ?_
              refine lv_dup hx hb d_Z_run_94 rfl ?_
              refine va_get (ci := 5) (v := .int ru) (C := R_Z) (T := T_Z) (N := 26) hx hb ht in_Z hown hK.1 hP 0 rfl rfl 5 (by decide) (ht _ k_fl_Z_155) (fun _ h9 => h9) rfl d_Z_run_95 ?_
              refine lv_iconst (v := 1) hx hb d_Z_run_98 (by decide) ?_
              refine lv_iadd hx hb d_Z_run_99 ?_
              refine va_put (ci := 5) (v := .int (ru + 1)) (ty := .int) (C := R_Z) (T := T_Z) (N := 26) hx hb ht in_Z t_Z t_Z_ok n_Z hown hK.1 hP hD hS 0 rfl rfl 5 (by decide) (ht _ k_fl_Z_155) (fun _ h9 => h9) rfl (by decide +kernel) rfl rfl (Nat.le_of_ble_eq_true rfl) d_Z_run_100 (fun H locs hP hD hS => ?_)
              have hP : va_P D vwCl ((wZ cI cL z0 y1 y2 y3 y4 y5 y6 y7 y8 y9 y10 y11 y12 y13 y14 mn oo oa ob ss gg zz md sd da rg_53 pp rg_53 ot (if wiF k 0 (bl - 1) = 0 then 1 else 0) li bl nw wr (ru + 1) al sp_53 en_53 en_53 0 at0) ++ fr) H := hP
              have hD : va_D A ((wZ cI cL z0 y1 y2 y3 y4 y5 y6 y7 y8 y9 y10 y11 y12 y13 y14 mn oo oa ob ss gg zz md sd da rg_53 pp rg_53 ot (if wiF k 0 (bl - 1) = 0 then 1 else 0) li bl nw wr (ru + 1) al sp_53 en_53 en_53 0 at0) ++ fr) := hD
              refine lv_aload_n hx hb d_Z_run_103 rfl (lv_at hl 0 rfl) ?_
              refine lv_dup hx hb d_Z_run_104 rfl ?_
              refine va_get (ci := 5) (v := .int al) (C := R_Z) (T := T_Z) (N := 26) hx hb ht in_Z hown hK.1 hP 0 rfl rfl 6 (by decide) (ht _ k_fl_Z_158) (fun _ h9 => h9) rfl d_Z_run_105 ?_
              refine lv_aload_n hx hb d_Z_run_108 rfl (lv_at hl 0 rfl) ?_
              refine va_get (ci := 5) (v := .int sp_53) (C := R_Z) (T := T_Z) (N := 26) hx hb ht in_Z hown hK.1 hP 0 rfl rfl 19 (by decide) (ht _ k_fl_Z_124) (fun _ h9 => h9) rfl d_Z_run_109 ?_
              refine lv_iadd hx hb d_Z_run_112 ?_
              refine va_put (ci := 5) (v := .int (al + sp_53)) (ty := .int) (C := R_Z) (T := T_Z) (N := 26) hx hb ht in_Z t_Z t_Z_ok n_Z hown hK.1 hP hD hS 0 rfl rfl 6 (by decide) (ht _ k_fl_Z_158) (fun _ h9 => h9) rfl (by decide +kernel) rfl rfl (Nat.le_of_ble_eq_true rfl) d_Z_run_113 (fun H locs hP hD hS => ?_)
              have hP : va_P D vwCl ((wZ cI cL z0 y1 y2 y3 y4 y5 y6 y7 y8 y9 y10 y11 y12 y13 y14 mn oo oa ob ss gg zz md sd da rg_53 pp rg_53 ot (if wiF k 0 (bl - 1) = 0 then 1 else 0) li bl nw wr (ru + 1) (al + sp_53) sp_53 en_53 en_53 0 at0) ++ fr) H := hP
              have hD : va_D A ((wZ cI cL z0 y1 y2 y3 y4 y5 y6 y7 y8 y9 y10 y11 y12 y13 y14 mn oo oa ob ss gg zz md sd da rg_53 pp rg_53 ot (if wiF k 0 (bl - 1) = 0 then 1 else 0) li bl nw wr (ru + 1) (al + sp_53) sp_53 en_53 en_53 0 at0) ++ fr) := hD
              refine lv_aload_n hx hb d_Z_run_116 rfl (lv_at hl 0 rfl) ?_
              refine va_get (ci := 5) (v := .int sp_53) (C := R_Z) (T := T_Z) (N := 26) hx hb ht in_Z hown hK.1 hP 0 rfl rfl 19 (by decide) (ht _ k_fl_Z_124) (fun _ h9 => h9) rfl d_Z_run_117 ?_
              rw [hQ]; exact retMi (w1 := fun u : Int32 × FL × FL × Int32 × Int32 × FL × Int32 × Int32 × Int32 × Int32 => ((wZ cI cL z0 y1 y2 y3 y4 y5 y6 y7 y8 y9 y10 y11 y12 y13 y14 mn oo oa ob ss gg zz md sd da u.2.1 u.2.2.1 u.2.2.2.2.2.1 ot u.1 li bl nw wr u.2.2.2.2.2.2.2.2.1 u.2.2.2.2.2.2.2.2.2 u.2.2.2.1 u.2.2.2.2.1 u.2.2.2.2.2.2.1 u.2.2.2.2.2.2.2.1 at0) ++ fr)) (if wiF k 0 (bl - 1) = 0 then 1 else 0, rg_53, pp, sp_53, en_53, rg_53, en_53, 0, ru + 1, al + sp_53) hx hb hr hlocks hP hD hS (Or.inr ⟨c_5, if_neg c_5, rfl, rfl, Or.inr ⟨c_25, rfl, e_53⟩⟩) d_Z_run_120
            · refine lv_aload_n hx hb d_Z_run_65 rfl (lv_at hl 0 rfl) ?_
              refine va_get (ci := 5) (v := .ref y13) (C := R_Z) (T := T_Z) (N := 26) hx hb ht in_Z hown hK.1 hP 0 rfl rfl 21 (by decide) (ht _ k_fl_Z_47) (fun _ h9 => h9) rfl d_Z_run_66 ?_
              refine lv_iload hx hb d_Z_run_69 (lv_at hl 4 rfl) ?_
              refine lv_aload_n hx hb d_Z_run_71 rfl (lv_at hl 0 rfl) ?_
              refine va_get (ci := 5) (v := .ref y11) (C := R_Z) (T := T_Z) (N := 26) hx hb ht in_Z hown hK.1 hP 0 rfl rfl 17 (by decide) (ht _ k_fl_Z_40) (fun _ h9 => h9) rfl d_Z_run_72 ?_
              refine lv_iload hx hb d_Z_run_75 (lv_at hl 4 rfl) ?_
              refine va_lald hx hb hK.1 hP 11 1 rfl rfl (in_of (N := 4) (by decide) (nn_of hi.1) c_62) d_Z_run_77 ?_
              refine va_last hx hb hK.1 hP hD hS 13 1 rfl rfl (in_of (N := 4) (by decide) (nn_of hi.1) c_62) d_Z_run_78 (fun H locs hP hD hS => ?_)
              have hP : va_P D vwCl ((wZ cI cL z0 y1 y2 y3 y4 y5 y6 y7 y8 y9 y10 y11 y12 y13 y14 mn oo oa ob ss gg zz md sd da rg_53 pp (vp_updL kp1 i.toNatClampNeg (rg_53 i.toNatClampNeg)) ot (if wiF k 0 (bl - 1) = 0 then 1 else 0) li bl nw wr ru al sp_53 en_53 ke 0 at0) ++ fr) H := hP
              have hD : va_D A ((wZ cI cL z0 y1 y2 y3 y4 y5 y6 y7 y8 y9 y10 y11 y12 y13 y14 mn oo oa ob ss gg zz md sd da rg_53 pp (vp_updL kp1 i.toNatClampNeg (rg_53 i.toNatClampNeg)) ot (if wiF k 0 (bl - 1) = 0 then 1 else 0) li bl nw wr ru al sp_53 en_53 ke 0 at0) ++ fr) := hD
              refine lv_iinc (v := i + 1) (lv' := [(6, .int (i + 1)), (0, .ref z0), (1, .int k), (2, .long x), (4, .long y)]) hx hb d_Z_run_79 hl (k := 4) rfl rfl (by decide) rfl (fun ls hl => ?_)
              refine lv_goto (tgt := 59) hx hb d_Z_run_82 (by decide) ?_
              exact ih (i + 1) (vp_updL kp1 i.toNatClampNeg (rg_53 i.toNatClampNeg)) _ _ ls (by rw [i32_1 (by omega)]; omega) (by rw [i32_1 (by omega)]; have := i_lt c_62; have h3 : (4 : Int32).toInt = 4 := (by decide); omega) (cp_s hi.1 (by omega) hf) hP hD hS (lv_sub hl [1, 2, 3, 4, 0] rfl)
        exact lp 5 0 kp _ _ ls (by decide) (by decide) (fun j hj => absurd hj (by simp)) hP hD hS (lv_sub hl [1, 2, 3, 4, 0] rfl)
      · exact absurd c_40 (by decide)
    · refine lv_iconst (v := 1) hx hb d_Z_run_28 (by decide) ?_
      refine lv_goto (tgt := 33) hx hb d_Z_run_29 (by decide) ?_
      refine va_put (ci := 5) (v := .int 1) (ty := .boolean) (C := R_Z) (T := T_Z) (N := 26) hx hb ht in_Z t_Z t_Z_ok n_Z hown hK.1 hP hD hS 0 rfl rfl 24 (by decide) (ht _ k_fl_Z_141) (fun _ h9 => h9) rfl (by decide +kernel) rfl rfl (Nat.le_of_ble_eq_true rfl) d_Z_run_33 (fun H locs hP hD hS => ?_)
      have hP : va_P D vwCl ((wZ cI cL z0 y1 y2 y3 y4 y5 y6 y7 y8 y9 y10 y11 y12 y13 y14 mn oo oa ob ss gg zz md sd da (begR x y) pp kp ot (if wiF k 0 (bl - 1) = 0 then 1 else 0) li bl nw wr ru al 0 0 ke 1 at0) ++ fr) H := hP
      have hD : va_D A ((wZ cI cL z0 y1 y2 y3 y4 y5 y6 y7 y8 y9 y10 y11 y12 y13 y14 mn oo oa ob ss gg zz md sd da (begR x y) pp kp ot (if wiF k 0 (bl - 1) = 0 then 1 else 0) li bl nw wr ru al 0 0 ke 1 at0) ++ fr) := hD
      refine lv_aload_n hx hb d_Z_run_36 rfl (lv_at hl 0 rfl) ?_
      refine va_get (ci := 5) (v := .int 1) (C := R_Z) (T := T_Z) (N := 26) hx hb ht in_Z hown hK.1 hP 0 rfl rfl 24 (by decide) (ht _ k_fl_Z_141) (fun _ h9 => h9) rfl d_Z_run_37 ?_
      refine lv_if_eq (tgt := 51) hx hb d_Z_run_40 (by decide) (fun c_40 => ?_) (fun c_40 => ?_)
      · exact absurd c_40 (by decide)
      · refine lv_aload_n hx hb d_Z_run_43 rfl (lv_at hl 0 rfl) ?_
        refine lv_iload_n hx hb d_Z_run_44 rfl (lv_at hl 1 rfl) ?_
        refine goMv (va_runV (As := [.int k]) (rest := []) ⟨hx, hb, hml, hown, hts⟩ (c_Z_runBytes l D cI cL cO z0 y1 y2 y3 y4 y5 y6 y7 y8 y9 y10 y11 y12 y13 y14 mn oo oa ob ss gg zz md sd da (begR x y) pp kp ot (if wiF k 0 (bl - 1) = 0 then 1 else 0) li bl nw wr ru al 0 0 ke 1 at0 fr k hzz (k_t (wi_k hbl c_5)) (hY7.v (k_t (wi_k hbl c_5))) (hH k (k_t (wi_k hbl c_5)) c_25) rfl rfl H.size) (cwV 1 hts (gBIG (m4 k_ml_Z_145 k_im_Z_runBytes k_sel_Z_runBytes k_ini_Z) k_co_Z_runBytes) rfl rfl rfl (by decide +kernel) ⟨Nat.le_of_ble_eq_true rfl, Nat.le_of_ble_eq_true rfl⟩) ⟨PM.bl, va_recv hK.1 hP (ci := 5) (q0 := 0) rfl rfl, PM.pre hP hD hK⟩ rfl rfl hl.1 rfl (lv_room (Nat.le_of_ble_eq_true rfl)) d_Z_run_45 ⟨Nat.le_of_ble_eq_true rfl, Nat.le_of_ble_eq_true rfl⟩) hD hS hA (fun u H locs hw hP hD hS => ?_)
        obtain ⟨rg_45, pp_45, sp_45, en_45⟩ := u
        have e_45 : rg_45 = (byL (vw 300 md k) (zz k.toNatClampNeg) 600301 0 0 (begR x y) (pp, 0) 0).1 ∧ sp_45 = (byL (vw 300 md k) (zz k.toNatClampNeg) 600301 0 0 (begR x y) (pp, 0) 0).2.2.1 ∧ en_45 = (byL (vw 300 md k) (zz k.toNatClampNeg) 600301 0 0 (begR x y) (pp, 0) 0).2.2.2 := hw
        have hP : va_P D vwCl ((wZ cI cL z0 y1 y2 y3 y4 y5 y6 y7 y8 y9 y10 y11 y12 y13 y14 mn oo oa ob ss gg zz md sd da rg_45 pp_45 kp ot (if wiF k 0 (bl - 1) = 0 then 1 else 0) li bl nw wr ru al sp_45 en_45 ke 1 at0) ++ fr) H := hP
        have hD : va_D A ((wZ cI cL z0 y1 y2 y3 y4 y5 y6 y7 y8 y9 y10 y11 y12 y13 y14 mn oo oa ob ss gg zz md sd da rg_45 pp_45 kp ot (if wiF k 0 (bl - 1) = 0 then 1 else 0) li bl nw wr ru al sp_45 en_45 ke 1 at0) ++ fr) := hD
        refine lv_goto (tgt := 56) hx hb d_Z_run_48 (by decide) ?_
        refine lv_iconst (v := 0) hx hb d_Z_run_56 (by decide) ?_
        refine lv_istore (lv' := [(6, .int 0), (0, .ref z0), (1, .int k), (2, .long x), (4, .long y)]) hx hb d_Z_run_57 hl (by decide) rfl (fun ls hl => ?_)
        have lp : ∀ (n : Nat) (i : Int32) (kp1 : FL) (H : Heap) (locs : List Loc) (ls : Array Slot), (i.toInt + (n : Int) = 5) → (0 ≤ i.toInt ∧ i.toInt ≤ 4) → (∀ j : Nat, (j : Int) < i.toInt → kp1 j = rg_45 j) → va_P D vwCl ((wZ cI cL z0 y1 y2 y3 y4 y5 y6 y7 y8 y9 y10 y11 y12 y13 y14 mn oo oa ob ss gg zz md sd da rg_45 pp_45 kp1 ot (if wiF k 0 (bl - 1) = 0 then 1 else 0) li bl nw wr ru al sp_45 en_45 ke 1 at0) ++ fr) H → va_D A ((wZ cI cL z0 y1 y2 y3 y4 y5 y6 y7 y8 y9 y10 y11 y12 y13 y14 mn oo oa ob ss gg zz md sd da rg_45 pp_45 kp1 ot (if wiF k 0 (bl - 1) = 0 then 1 else 0) li bl nw wr ru al sp_45 en_45 ke 1 at0) ++ fr) → va_S A s.heap H locs → lv_has ls 7 [(0, .ref z0), (1, .int k), (2, .long x), (4, .long y), (6, .int i)] → W p l e ({ frames := 2, cells := 0, slots := 0, locals := 51 } : Room) s m ([.ref z0, .int k, .long x, .long y] : List Value).toArray below meth c H locs 0 0 Q (F0 m 59 ls []) := by
          intro n
          induction n with
          | zero =>
            intro i kp1 H locs ls hn hi hf hP hD hS hl
            exact absurd hn (by omega)
          | succ n ih =>
            intro i kp1 H locs ls hn hi hf hP hD hS hl
            refine lv_iload hx hb d_Z_run_59 (lv_at hl 4 rfl) ?_
            refine lv_iconst (v := 4) hx hb d_Z_run_61 (by decide) ?_
            refine lv_icmp_ge (tgt := 85) hx hb d_Z_run_62 (by decide) (fun c_62 => ?_) (fun c_62 => ?_)
            · have hP := P_rep 13 rfl (fun j hj => hf j (by have := i_le4 c_62; omega)) hD hP
              have hP : va_P D vwCl ((wZ cI cL z0 y1 y2 y3 y4 y5 y6 y7 y8 y9 y10 y11 y12 y13 y14 mn oo oa ob ss gg zz md sd da rg_45 pp_45 rg_45 ot (if wiF k 0 (bl - 1) = 0 then 1 else 0) li bl nw wr ru al sp_45 en_45 ke 1 at0) ++ fr) H := hP
              have hD : va_D A ((wZ cI cL z0 y1 y2 y3 y4 y5 y6 y7 y8 y9 y10 y11 y12 y13 y14 mn oo oa ob ss gg zz md sd da rg_45 pp_45 rg_45 ot (if wiF k 0 (bl - 1) = 0 then 1 else 0) li bl nw wr ru al sp_45 en_45 ke 1 at0) ++ fr) := va_D.set (p := 13) hD rfl
              refine lv_aload_n hx hb d_Z_run_85 rfl (lv_at hl 0 rfl) ?_
              refine lv_aload_n hx hb d_Z_run_86 rfl (lv_at hl 0 rfl) ?_
              refine va_get (ci := 5) (v := .int en_45) (C := R_Z) (T := T_Z) (N := 26) hx hb ht in_Z hown hK.1 hP 0 rfl rfl 20 (by decide) (ht _ k_fl_Z_127) (fun _ h9 => h9) rfl d_Z_run_87 ?_
              refine va_put (ci := 5) (v := .int en_45) (ty := .int) (C := R_Z) (T := T_Z) (N := 26) hx hb ht in_Z t_Z t_Z_ok n_Z hown hK.1 hP hD hS 0 rfl rfl 23 (by decide) (ht _ k_fl_Z_152) (fun _ h9 => h9) rfl (by decide +kernel) rfl rfl (Nat.le_of_ble_eq_true rfl) d_Z_run_90 (fun H locs hP hD hS => ?_)
              have hP : va_P D vwCl ((wZ cI cL z0 y1 y2 y3 y4 y5 y6 y7 y8 y9 y10 y11 y12 y13 y14 mn oo oa ob ss gg zz md sd da rg_45 pp_45 rg_45 ot (if wiF k 0 (bl - 1) = 0 then 1 else 0) li bl nw wr ru al sp_45 en_45 en_45 1 at0) ++ fr) H := hP
              have hD : va_D A ((wZ cI cL z0 y1 y2 y3 y4 y5 y6 y7 y8 y9 y10 y11 y12 y13 y14 mn oo oa ob ss gg zz md sd da rg_45 pp_45 rg_45 ot (if wiF k 0 (bl - 1) = 0 then 1 else 0) li bl nw wr ru al sp_45 en_45 en_45 1 at0) ++ fr) := hD
              refine lv_aload_n hx hb d_Z_run_93 rfl (lv_at hl 0 rfl) ?_
              refine lv_dup hx hb d_Z_run_94 rfl ?_
              refine va_get (ci := 5) (v := .int ru) (C := R_Z) (T := T_Z) (N := 26) hx hb ht in_Z hown hK.1 hP 0 rfl rfl 5 (by decide) (ht _ k_fl_Z_155) (fun _ h9 => h9) rfl d_Z_run_95 ?_
              refine lv_iconst (v := 1) hx hb d_Z_run_98 (by decide) ?_
              refine lv_iadd hx hb d_Z_run_99 ?_
              refine va_put (ci := 5) (v := .int (ru + 1)) (ty := .int) (C := R_Z) (T := T_Z) (N := 26) hx hb ht in_Z t_Z t_Z_ok n_Z hown hK.1 hP hD hS 0 rfl rfl 5 (by decide) (ht _ k_fl_Z_155) (fun _ h9 => h9) rfl (by decide +kernel) rfl rfl (Nat.le_of_ble_eq_true rfl) d_Z_run_100 (fun H locs hP hD hS => ?_)
              have hP : va_P D vwCl ((wZ cI cL z0 y1 y2 y3 y4 y5 y6 y7 y8 y9 y10 y11 y12 y13 y14 mn oo oa ob ss gg zz md sd da rg_45 pp_45 rg_45 ot (if wiF k 0 (bl - 1) = 0 then 1 else 0) li bl nw wr (ru + 1) al sp_45 en_45 en_45 1 at0) ++ fr) H := hP
              have hD : va_D A ((wZ cI cL z0 y1 y2 y3 y4 y5 y6 y7 y8 y9 y10 y11 y12 y13 y14 mn oo oa ob ss gg zz md sd da rg_45 pp_45 rg_45 ot (if wiF k 0 (bl - 1) = 0 then 1 else 0) li bl nw wr (ru + 1) al sp_45 en_45 en_45 1 at0) ++ fr) := hD
              refine lv_aload_n hx hb d_Z_run_103 rfl (lv_at hl 0 rfl) ?_
              refine lv_dup hx hb d_Z_run_104 rfl ?_
              refine va_get (ci := 5) (v := .int al) (C := R_Z) (T := T_Z) (N := 26) hx hb ht in_Z hown hK.1 hP 0 rfl rfl 6 (by decide) (ht _ k_fl_Z_158) (fun _ h9 => h9) rfl d_Z_run_105 ?_
              refine lv_aload_n hx hb d_Z_run_108 rfl (lv_at hl 0 rfl) ?_
              refine va_get (ci := 5) (v := .int sp_45) (C := R_Z) (T := T_Z) (N := 26) hx hb ht in_Z hown hK.1 hP 0 rfl rfl 19 (by decide) (ht _ k_fl_Z_124) (fun _ h9 => h9) rfl d_Z_run_109 ?_
              refine lv_iadd hx hb d_Z_run_112 ?_
              refine va_put (ci := 5) (v := .int (al + sp_45)) (ty := .int) (C := R_Z) (T := T_Z) (N := 26) hx hb ht in_Z t_Z t_Z_ok n_Z hown hK.1 hP hD hS 0 rfl rfl 6 (by decide) (ht _ k_fl_Z_158) (fun _ h9 => h9) rfl (by decide +kernel) rfl rfl (Nat.le_of_ble_eq_true rfl) d_Z_run_113 (fun H locs hP hD hS => ?_)
              have hP : va_P D vwCl ((wZ cI cL z0 y1 y2 y3 y4 y5 y6 y7 y8 y9 y10 y11 y12 y13 y14 mn oo oa ob ss gg zz md sd da rg_45 pp_45 rg_45 ot (if wiF k 0 (bl - 1) = 0 then 1 else 0) li bl nw wr (ru + 1) (al + sp_45) sp_45 en_45 en_45 1 at0) ++ fr) H := hP
              have hD : va_D A ((wZ cI cL z0 y1 y2 y3 y4 y5 y6 y7 y8 y9 y10 y11 y12 y13 y14 mn oo oa ob ss gg zz md sd da rg_45 pp_45 rg_45 ot (if wiF k 0 (bl - 1) = 0 then 1 else 0) li bl nw wr (ru + 1) (al + sp_45) sp_45 en_45 en_45 1 at0) ++ fr) := hD
              refine lv_aload_n hx hb d_Z_run_116 rfl (lv_at hl 0 rfl) ?_
              refine va_get (ci := 5) (v := .int sp_45) (C := R_Z) (T := T_Z) (N := 26) hx hb ht in_Z hown hK.1 hP 0 rfl rfl 19 (by decide) (ht _ k_fl_Z_124) (fun _ h9 => h9) rfl d_Z_run_117 ?_
              rw [hQ]; exact retMi (w1 := fun u : Int32 × FL × FL × Int32 × Int32 × FL × Int32 × Int32 × Int32 × Int32 => ((wZ cI cL z0 y1 y2 y3 y4 y5 y6 y7 y8 y9 y10 y11 y12 y13 y14 mn oo oa ob ss gg zz md sd da u.2.1 u.2.2.1 u.2.2.2.2.2.1 ot u.1 li bl nw wr u.2.2.2.2.2.2.2.2.1 u.2.2.2.2.2.2.2.2.2 u.2.2.2.1 u.2.2.2.2.1 u.2.2.2.2.2.2.1 u.2.2.2.2.2.2.2.1 at0) ++ fr)) (if wiF k 0 (bl - 1) = 0 then 1 else 0, rg_45, pp_45, sp_45, en_45, rg_45, en_45, 1, ru + 1, al + sp_45) hx hb hr hlocks hP hD hS (Or.inr ⟨c_5, if_neg c_5, rfl, rfl, Or.inl ⟨c_25, rfl, e_45.1, e_45.2.1, e_45.2.2⟩⟩) d_Z_run_120
            · refine lv_aload_n hx hb d_Z_run_65 rfl (lv_at hl 0 rfl) ?_
              refine va_get (ci := 5) (v := .ref y13) (C := R_Z) (T := T_Z) (N := 26) hx hb ht in_Z hown hK.1 hP 0 rfl rfl 21 (by decide) (ht _ k_fl_Z_47) (fun _ h9 => h9) rfl d_Z_run_66 ?_
              refine lv_iload hx hb d_Z_run_69 (lv_at hl 4 rfl) ?_
              refine lv_aload_n hx hb d_Z_run_71 rfl (lv_at hl 0 rfl) ?_
              refine va_get (ci := 5) (v := .ref y11) (C := R_Z) (T := T_Z) (N := 26) hx hb ht in_Z hown hK.1 hP 0 rfl rfl 17 (by decide) (ht _ k_fl_Z_40) (fun _ h9 => h9) rfl d_Z_run_72 ?_
              refine lv_iload hx hb d_Z_run_75 (lv_at hl 4 rfl) ?_
              refine va_lald hx hb hK.1 hP 11 1 rfl rfl (in_of (N := 4) (by decide) (nn_of hi.1) c_62) d_Z_run_77 ?_
              refine va_last hx hb hK.1 hP hD hS 13 1 rfl rfl (in_of (N := 4) (by decide) (nn_of hi.1) c_62) d_Z_run_78 (fun H locs hP hD hS => ?_)
              have hP : va_P D vwCl ((wZ cI cL z0 y1 y2 y3 y4 y5 y6 y7 y8 y9 y10 y11 y12 y13 y14 mn oo oa ob ss gg zz md sd da rg_45 pp_45 (vp_updL kp1 i.toNatClampNeg (rg_45 i.toNatClampNeg)) ot (if wiF k 0 (bl - 1) = 0 then 1 else 0) li bl nw wr ru al sp_45 en_45 ke 1 at0) ++ fr) H := hP
              have hD : va_D A ((wZ cI cL z0 y1 y2 y3 y4 y5 y6 y7 y8 y9 y10 y11 y12 y13 y14 mn oo oa ob ss gg zz md sd da rg_45 pp_45 (vp_updL kp1 i.toNatClampNeg (rg_45 i.toNatClampNeg)) ot (if wiF k 0 (bl - 1) = 0 then 1 else 0) li bl nw wr ru al sp_45 en_45 ke 1 at0) ++ fr) := hD
              refine lv_iinc (v := i + 1) (lv' := [(6, .int (i + 1)), (0, .ref z0), (1, .int k), (2, .long x), (4, .long y)]) hx hb d_Z_run_79 hl (k := 4) rfl rfl (by decide) rfl (fun ls hl => ?_)
              refine lv_goto (tgt := 59) hx hb d_Z_run_82 (by decide) ?_
              exact ih (i + 1) (vp_updL kp1 i.toNatClampNeg (rg_45 i.toNatClampNeg)) _ _ ls (by rw [i32_1 (by omega)]; omega) (by rw [i32_1 (by omega)]; have := i_lt c_62; have h3 : (4 : Int32).toInt = 4 := (by decide); omega) (cp_s hi.1 (by omega) hf) hP hD hS (lv_sub hl [1, 2, 3, 4, 0] rfl)
        exact lp 5 0 kp _ _ ls (by decide) (by decide) (fun j hj => absurd hj (by simp)) hP hD hS (lv_sub hl [1, 2, 3, 4, 0] rfl)
  · refine lv_iconst (v := 0) hx hb d_Z_run_8 (by decide) ?_
    rw [hQ]; exact retMi (w1 := fun u : Int32 × FL × FL × Int32 × Int32 × FL × Int32 × Int32 × Int32 × Int32 => ((wZ cI cL z0 y1 y2 y3 y4 y5 y6 y7 y8 y9 y10 y11 y12 y13 y14 mn oo oa ob ss gg zz md sd da u.2.1 u.2.2.1 u.2.2.2.2.2.1 ot u.1 li bl nw wr u.2.2.2.2.2.2.2.2.1 u.2.2.2.2.2.2.2.2.2 u.2.2.2.1 u.2.2.2.2.1 u.2.2.2.2.2.2.1 u.2.2.2.2.2.2.2.1 at0) ++ fr)) (if wiF k 0 (bl - 1) = 0 then 1 else 0, rg, pp, sp, en, kp, ke, kb, ru, al) hx hb hr hlocks hP hD hS (Or.inl ⟨c_5, rfl, if_pos c_5, rfl, rfl, rfl, rfl, rfl⟩) d_Z_run_9
