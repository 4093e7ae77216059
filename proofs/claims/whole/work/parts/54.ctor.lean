abbrev w_AC_init : List Cond := .code y_AC_init b_AC_init 1 none :: BIG
set_option maxHeartbeats 1000000 in
set_option maxRecDepth 100000 in
theorem c_AC_init (l : Launch) (D : va_G) (cI cL cO : ClassId) (h0 : Nat) (fr : va_W)   : CMv l y_AC_init w_AC_init ({ frames := 1, cells := 0, slots := 0, locals := 20 }) D cI cL cO [.ref h0] (([(h0, .inr (4, [.null, .int 0, .int 0]))] ++ fr)) (fun _ : Unit => True) (fun u : Unit => [(h0, .inr (4, [.null, .int 0, .int 0]))] ++ fr) 0 0 := by
  refine ofMv (cc := b_AC_init) (maxL := 1) (ret := none) (by decide) rfl (Nat.le_of_ble_eq_true rfl) ?_
  intro p e s m below meth c A ls H Q hQ hx hb hr hlocks hin hts hown hml hP hK hD hS hA hl
  have hl : lv_has ls 1 [(0, .ref h0)] := hl
  have hown : s.vm.findClass R_AC = some m.cls := hown
  have ht : ∀ w ∈ BIG, w.before _ s = true := fun w h => hts w (List.mem_cons_of_mem _ h)
  refine lv_aload_n hx hb d_AC_init_0 rfl (lv_at hl 0 rfl) ?_
  refine W.objInit hx hb hown (ht _ ko_AC) (ht _ ko_im) (ht _ ko_co) rfl (by rw [hml]; exact hl.1) rfl d_AC_init_1 (Nat.le_of_ble_eq_true rfl) (Nat.le_of_ble_eq_true rfl) ?_
  rw [hQ]; exact retMv (post := fun _ : Unit => True) (w1 := fun u : Unit => [(h0, .inr (4, [.null, .int 0, .int 0]))] ++ fr) () hx hb hr hlocks hP hD hS trivial d_AC_init_4

abbrev w_AL_init : List Cond := .code y_AL_init b_AL_init 1 none :: BIG
set_option maxHeartbeats 1000000 in
set_option maxRecDepth 100000 in
theorem c_AL_init (l : Launch) (D : va_G) (cI cL cO : ClassId) (h0 : Nat) (fr : va_W)   : CMv l y_AL_init w_AL_init ({ frames := 2, cells := 0, slots := 0, locals := 40 }) D cI cL cO [.ref h0] (([(h0, .inr (4, [.null, .int 0, .int 0]))] ++ fr)) (fun _ : Unit => True) (fun u : Unit => [(h0, .inr (4, [.null, .int 0, .int 0]))] ++ fr) 0 0 := by
  refine ofMv (cc := b_AL_init) (maxL := 1) (ret := none) (by decide) rfl (Nat.le_of_ble_eq_true rfl) ?_
  intro p e s m below meth c A ls H Q hQ hx hb hr hlocks hin hts hown hml hP hK hD hS hA hl
  have hl : lv_has ls 1 [(0, .ref h0)] := hl
  have hown : s.vm.findClass R_AL = some m.cls := hown
  have ht : ∀ w ∈ BIG, w.before _ s = true := fun w h => hts w (List.mem_cons_of_mem _ h)
  refine lv_aload_n hx hb d_AL_init_0 rfl (lv_at hl 0 rfl) ?_
  refine goMv (va_runI (As := []) (rest := []) ⟨hx, hb, hml, hown, hts⟩ (c_AC_init l D cI cL cO h0 fr  H.size) (cwI 0 hts (gB0 k_co_AC_init) rfl rfl rfl (ht _ k_ini_AC) (ht _ k_ml_AL_1) (ht _ k_im_AC_init) rfl (by decide +kernel) ⟨Nat.le_of_ble_eq_true rfl, Nat.le_of_ble_eq_true rfl⟩) ⟨PM.bl, PM.pre hP hD hK⟩ rfl rfl hl.1 rfl (lv_room (Nat.le_of_ble_eq_true rfl)) d_AL_init_1 ⟨Nat.le_of_ble_eq_true rfl, Nat.le_of_ble_eq_true rfl⟩) hD hS hA (fun u H locs hw hP hD hS => ?_)
  have hP : va_P D vwCl ([(h0, .inr (4, [.null, .int 0, .int 0]))] ++ fr) H := hP
  have hD : va_D A ([(h0, .inr (4, [.null, .int 0, .int 0]))] ++ fr) := hD
  refine lv_aload_n hx hb d_AL_init_4 rfl (lv_at hl 0 rfl) ?_
  refine lv_iconst (v := 0) hx hb d_AL_init_5 (by decide) ?_
  refine va_put (ci := 4) (v := .int 0) (ty := .int) (C := R_A) (T := T_A) (N := 3) hx hb ht in_A t_A t_A_ok n_A hown hK.1 hP hD hS 0 rfl rfl 2 (by decide) (ht _ k_fl_AL_7) (fun _ h9 => h9) rfl (by decide +kernel) rfl rfl (Nat.le_of_ble_eq_true rfl) d_AL_init_6 (fun H locs hP hD hS => ?_)
  have hP : va_P D vwCl ([(h0, .inr (4, [.null, .int 0, .int 0]))] ++ fr) H := hP
  have hD : va_D A ([(h0, .inr (4, [.null, .int 0, .int 0]))] ++ fr) := hD
  rw [hQ]; exact retMv (post := fun _ : Unit => True) (w1 := fun u : Unit => [(h0, .inr (4, [.null, .int 0, .int 0]))] ++ fr) () hx hb hr hlocks hP hD hS trivial d_AL_init_9

abbrev w_A_init : List Cond := .code y_A_init b_A_init 1 none :: BIG
set_option maxHeartbeats 1000000 in
set_option maxRecDepth 100000 in
theorem c_A_init (l : Launch) (D : va_G) (cI cL cO : ClassId) (N t0 mi : Nat) (h0 : Nat) (fr : va_W)  : CXv l y_A_init w_A_init ({ frames := 3, cells := 0, slots := 0, locals := 60 }) D cI cL cO N t0 mi [.ref h0] (([(h0, .inr (4, [.null, .int 0, .int 0]))] ++ fr)) (fun _ : Unit => True) (fun u : Unit => (wH h0 t0 0 0 ++ fr)) 0 0 := by
  refine ofXv (cc := b_A_init) (maxL := 1) (ret := none) (by decide) rfl (Nat.le_of_ble_eq_true rfl) ?_
  intro p e s m below meth c A ls H Q hQ hx hb hr hlocks hin hts hown hml hP hK hD hS hA hl hE hN hAN
  have hl : lv_has ls 1 [(0, .ref h0)] := hl
  have hown : s.vm.findClass R_A = some m.cls := hown
  have ht : ∀ w ∈ BIG, w.before _ s = true := fun w h => hts w (List.mem_cons_of_mem _ h)
  refine lv_aload_n hx hb d_A_init_0 rfl (lv_at hl 0 rfl) ?_
  refine goMv (va_runI (As := []) (rest := []) ⟨hx, hb, hml, hown, hts⟩ (c_AL_init l D cI cL cO h0 fr  H.size) (cwI 0 hts (gB0 k_co_AL_init) rfl rfl rfl (ht _ k_ini_AL) (ht _ k_ml_A_1) (ht _ k_im_AL_init) rfl (by decide +kernel) ⟨Nat.le_of_ble_eq_true rfl, Nat.le_of_ble_eq_true rfl⟩) ⟨PM.bl, PM.pre hP hD hK⟩ rfl rfl hl.1 rfl (lv_room (Nat.le_of_ble_eq_true rfl)) d_A_init_1 ⟨Nat.le_of_ble_eq_true rfl, Nat.le_of_ble_eq_true rfl⟩) hD hS hA (fun u H locs hw hP hD hS => ?_)
  have hP : va_P D vwCl ([(h0, .inr (4, [.null, .int 0, .int 0]))] ++ fr) H := hP
  have hD : va_D A ([(h0, .inr (4, [.null, .int 0, .int 0]))] ++ fr) := hD
  refine lv_aload_n hx hb d_A_init_4 rfl (lv_at hl 0 rfl) ?_
  refine va_gets hx hb (hE.2.1.narrow hAN) hS hown (ht _ k_fl_A_39) (fun _ h9 => h9) d_A_init_5 ?_
  refine va_put (ci := 4) (v := .ref t0) (ty := .array (.object "java/lang/Object")) (C := R_A) (T := T_A) (N := 3) hx hb ht in_A t_A t_A_ok n_A hown hK.1 hP hD hS 0 rfl rfl 0 (by decide) (ht _ k_fl_A_9) (fun _ h9 => h9) rfl (by decide +kernel) rfl rfl (Nat.le_of_ble_eq_true rfl) d_A_init_8 (fun H locs hP hD hS => ?_)
  have hP : va_P D vwCl ([(h0, .inr (4, [.ref t0, .int 0, .int 0]))] ++ fr) H := hP
  have hD : va_D A ([(h0, .inr (4, [.ref t0, .int 0, .int 0]))] ++ fr) := hD
  rw [hQ]; exact retMv (post := fun _ : Unit => True) (w1 := fun u : Unit => (wH h0 t0 0 0 ++ fr)) () hx hb hr hlocks hP hD hS trivial d_A_init_11

theorem ofRF {l : Launch} {y : MethodName} {ws ws' : List Cond} {rm : Room} {D : va_G} {cI cL cO : ClassId} {av : List Value} {w0 : va_W} {Qc : Array Value → State → Outcome → State → Prop} {cc : ByteArray} {maxL : Nat} {ret : Option FieldType}
    (hy : plainFor y = true) (hw : ws = Cond.code y cc maxL ret :: ws') (hn : (lg_sl av).length ≤ maxL)
    (body : ∀ (p : Program) (e : Env) (s : State) (m : MethodId) (below : List Frame) (meth : Method) (c : Code) (ls : Array Slot) (Q : State → Prop), Q = MQ below Qc av.toArray s 0 0 NoF → p.tables.exec = Jvm.exec → c.code = cc → meth.sig.returnType = ret → meth.locks = false → (∀ w ∈ ws, w.before av.toArray s = true) → s.vm.findClass y.cls = some m.cls → c.maxLocals = maxL → va_P D vwCl w0 s.heap → KW D cI cL cO s → lv_has ls maxL (lv_args 0 av) →
      W p l e rm s m av.toArray below meth c s.heap [] 0 0 Q (F0 m 0 ls [])) : Met l y ws rm (PR D cI cL cO av w0) Qc 0 0 NoF := by
  refine va_MetF (cc := cc) (maxL := maxL) (ret := ret) hy hw ?_
  intro p e s m args below meth c s₁ B hml hv
  obtain ⟨rfl, hP, hK⟩ := hv
  have hl := lv_entry av (n := maxL) hn
  rw [lg_entry_eq]
  generalize (lg_sl av ++ List.replicate (maxL - (lg_sl av).length) Slot.unset).toArray = ls at hl ⊢
  exact body p e s m below meth c ls _ rfl B.exec B.bytes B.returns B.notSynchronized (atoms_spec (ws := ws) B.pre) (findClass_of_methodNamed B.named) hml hP hK hl
def fmF (x : Int32) : Int32 := if 0 ≤ x ^^^ 8 then x - x / 8 * 8 else if x - x / 8 * 8 = 0 then x - x / 8 * 8 else x - x / 8 * 8 + 8

abbrev w_Ma_floorMod : List Cond := .code y_Ma_floorMod b_Ma_floorMod 3 (some .int) :: BIG
set_option maxHeartbeats 1000000 in
set_option maxRecDepth 100000 in
theorem c_Ma_floorMod (l : Launch) (D : va_G) (cI cL cO : ClassId) (x : Int32) (yy : Int32) (hy : yy = 8) : CRi l y_Ma_floorMod w_Ma_floorMod ({ frames := 0, cells := 0, slots := 0, locals := 0 }) D cI cL cO [.int x, .int yy] ([]) (fmF x) := by
  refine ofRF (cc := b_Ma_floorMod) (maxL := 3) (ret := (some .int)) (by decide +kernel) rfl (Nat.le_of_ble_eq_true rfl) ?_
  intro p e s m below meth c ls Q hQ hx hb hr hlocks hts hown hml hP hK hl
  have hl : lv_has ls 3 [(0, .int x), (1, .int yy)] := hl
  have hown : s.vm.findClass R_Ma = some m.cls := hown
  have ht : ∀ w ∈ BIG, w.before _ s = true := fun w h => hts w (List.mem_cons_of_mem _ h)
  subst hy
  refine lv_iload_n hx hb d_Ma_floorMod_0 rfl (lv_at hl 0 rfl) ?_
  refine lv_iload_n hx hb d_Ma_floorMod_1 rfl (lv_at hl 1 rfl) ?_
  refine lv_irem hx hb d_Ma_floorMod_2 (by decide) ?_
  refine lv_istore_n (lv' := [(2, .int (x - x / 8 * 8)), (0, .int x), (1, .int 8)]) hx hb d_Ma_floorMod_3 rfl hl (by decide) rfl (fun ls hl => ?_)
  refine lv_iload_n hx hb d_Ma_floorMod_4 rfl (lv_at hl 1 rfl) ?_
  refine lv_iload_n hx hb d_Ma_floorMod_5 rfl (lv_at hl 2 rfl) ?_
  refine lv_ixor hx hb d_Ma_floorMod_6 ?_
  refine lv_if_ge (tgt := 18) hx hb d_Ma_floorMod_7 (by decide) (fun c_7 => ?_) (fun c_7 => ?_)
  · refine lv_iload_n hx hb d_Ma_floorMod_18 rfl (lv_at hl 0 rfl) ?_
    rw [hQ]; exact retRi hx hb hr hlocks (by simp only [fmF]; simp [*]) d_Ma_floorMod_19
  · refine lv_iload_n hx hb d_Ma_floorMod_10 rfl (lv_at hl 0 rfl) ?_
    refine lv_if_eq (tgt := 18) hx hb d_Ma_floorMod_11 (by decide) (fun c_11 => ?_) (fun c_11 => ?_)
    · refine lv_iload_n hx hb d_Ma_floorMod_18 rfl (lv_at hl 0 rfl) ?_
      rw [hQ]; exact retRi hx hb hr hlocks (by simp only [fmF]; simp [*]) d_Ma_floorMod_19
    · refine lv_iload_n hx hb d_Ma_floorMod_14 rfl (lv_at hl 0 rfl) ?_
      refine lv_iload_n hx hb d_Ma_floorMod_15 rfl (lv_at hl 2 rfl) ?_
      refine lv_iadd hx hb d_Ma_floorMod_16 ?_
      rw [hQ]; exact retRi hx hb hr hlocks (by simp only [fmF]; simp [*]) d_Ma_floorMod_17

def wX (x0 : Nat) (lim : Int32) (a0 : Nat) (k0 : Nat) (u0 : Nat) (v0 : Nat) (t1 : Nat) (gen : Int32) (wrg : Int32) (rns : Int32) (als : Int32) : va_W := [(x0, .inr (3, [.int lim, .ref a0, .ref k0, .ref u0, .ref v0, .ref t1, .int gen, .int wrg, .int rns, .int als]))]

abbrev w_M_init : List Cond := .code y_M_init b_M_init 2 none :: BIG
set_option maxHeartbeats 1000000 in
set_option maxRecDepth 100000 in
theorem c_M_init (l : Launch) (D : va_G) (cI cL cO : ClassId) (N t0 mi : Nat) (h0 : Nat) (fr : va_W) (gs : Int32) : CXv l y_M_init w_M_init ({ frames := 4, cells := 12, slots := 346, locals := 80 }) D cI cL cO N t0 mi [.ref h0, .int gs] (([(h0, .inr (3, [.int 0, .null, .null, .null, .null, .null, .int 0, .int 0, .int 0, .int 0]))] ++ fr)) (fun _ : Nat × Nat × Nat × Nat × Nat × Nat × Nat × Nat × Nat × Nat × Nat × Nat => True) (fun u : Nat × Nat × Nat × Nat × Nat × Nat × Nat × Nat × Nat × Nat × Nat × Nat => (wU u.2.2.2.2.2.2.2.2.2.1 u.2.2.2.2.2.2.2.2.2.2.1 u.2.2.2.2.2.2.2.2.2.2.2 0 0 0 0 ++ (wL4 cL u.2.2.2.2.2.2.2.2.2.2.1 (fun _ => 0) ++ (wL4 cL u.2.2.2.2.2.2.2.2.2.2.2 (fun _ => 0) ++ (wU u.2.2.2.2.2.2.1 u.2.2.2.2.2.2.2.1 u.2.2.2.2.2.2.2.2.1 0 0 0 0 ++ (wL4 cL u.2.2.2.2.2.2.2.1 (fun _ => 0) ++ (wL4 cL u.2.2.2.2.2.2.2.2.1 (fun _ => 0) ++ (wU u.2.2.2.1 u.2.2.2.2.1 u.2.2.2.2.2.1 0 0 0 0 ++ (wL4 cL u.2.2.2.2.1 (fun _ => 0) ++ (wL4 cL u.2.2.2.2.2.1 (fun _ => 0) ++ (wK u.2.1 u.2.2.1 ++ (wI3 cI u.2.2.1 (fun _ => 0) ++ (wH u.1 t0 0 0 ++ (wX h0 (1 + fmF (gs - 1)) u.1 u.2.1 u.2.2.2.1 u.2.2.2.2.2.2.1 u.2.2.2.2.2.2.2.2.2.1 0 0 0 0 ++ fr)))))))))))))) 12 346 := by
  refine ofXv (cc := b_M_init) (maxL := 2) (ret := none) (by decide) rfl (Nat.le_of_ble_eq_true rfl) ?_
  intro p e s m below meth c A ls H Q hQ hx hb hr hlocks hin hts hown hml hP hK hD hS hA hl hE hN hAN
  have hl : lv_has ls 2 [(0, .ref h0), (1, .int gs)] := hl
  have hown : s.vm.findClass R_M = some m.cls := hown
  have ht : ∀ w ∈ BIG, w.before _ s = true := fun w h => hts w (List.mem_cons_of_mem _ h)
  refine lv_aload_n hx hb d_M_init_0 rfl (lv_at hl 0 rfl) ?_
  refine W.objInit hx hb hown (ht _ ko_M) (ht _ ko_im) (ht _ ko_co) rfl (by rw [hml]; exact hl.1) rfl d_M_init_1 (Nat.le_of_ble_eq_true rfl) (Nat.le_of_ble_eq_true rfl) ?_
  refine lv_aload_n hx hb d_M_init_4 rfl (lv_at hl 0 rfl) ?_
  refine va_new (ci := 4) (fs := [.null, .int 0, .int 0]) (C := R_A) (T := T_A) (N := 3) hx hb ht in_A t_A t_A_ok hown (ht _ k_cl_M_9) (ht _ k_ins_A) (ht _ k_ini_A) hK.1 hP hD hS hA rfl (fun j hj => by rcases (show j = 0 ∨ j = 1 ∨ j = 2 by omega) with rfl | rfl | rfl <;> rfl) (Nat.le_of_ble_eq_true rfl) (Nat.le_of_ble_eq_true rfl) d_M_init_5 (fun q5 H hP hD hS => ?_)
  have hP := P_perm (List.perm_append_singleton _ _) hP
  have hD := D_perm (List.perm_append_singleton _ _) hD
  have hP : va_P D vwCl ([(q5, .inr (4, [.null, .int 0, .int 0]))] ++ ([(h0, .inr (3, [.int 0, .null, .null, .null, .null, .null, .int 0, .int 0, .int 0, .int 0]))] ++ fr)) H := hP
  have hD : va_D A ([(q5, .inr (4, [.null, .int 0, .int 0]))] ++ ([(h0, .inr (3, [.int 0, .null, .null, .null, .null, .null, .int 0, .int 0, .int 0, .int 0]))] ++ fr)) := hD
  refine lv_dup hx hb d_M_init_8 rfl ?_
  refine goMv (va_runI (As := []) (rest := [.ref q5, .ref h0]) ⟨hx, hb, hml, hown, hts⟩ (c_A_init l D cI cL cO N t0 mi q5 ([(h0, .inr (3, [.int 0, .null, .null, .null, .null, .null, .int 0, .int 0, .int 0, .int 0]))] ++ fr)  H.size) (cwI 0 hts (gB0 k_co_A_init) rfl rfl rfl (ht _ k_ini_A) (ht _ k_ml_M_11) (ht _ k_im_A_init) rfl (by decide +kernel) ⟨Nat.le_of_ble_eq_true rfl, Nat.le_of_ble_eq_true rfl⟩) ⟨PX.bl, PX.pre hP hD hK hE hS hAN hN⟩ rfl rfl hl.1 rfl (lv_room (Nat.le_of_ble_eq_true rfl)) d_M_init_9 ⟨Nat.le_of_ble_eq_true rfl, Nat.le_of_ble_eq_true rfl⟩) hD hS hA (fun u H locs hw hP hD hS => ?_)
  have hP : va_P D vwCl ((wH q5 t0 0 0) ++ ([(h0, .inr (3, [.int 0, .null, .null, .null, .null, .null, .int 0, .int 0, .int 0, .int 0]))] ++ fr)) H := hP
  have hD : va_D A ((wH q5 t0 0 0) ++ ([(h0, .inr (3, [.int 0, .null, .null, .null, .null, .null, .int 0, .int 0, .int 0, .int 0]))] ++ fr)) := hD
  refine va_putF (ci := 3) (v := .ref q5) (ty := .object "java/util/ArrayList") (C := R_M) (T := T_M) (N := 10) hx hb ht in_M t_M t_M_ok n_M hown hK.1 hP hD hS 1 rfl rfl 1 (by decide) (ht _ k_fl_M_12) (fun _ h9 => h9) rfl hin rfl (by decide +kernel) rfl rfl (Nat.le_of_ble_eq_true rfl) d_M_init_12 (fun H locs hP hD hS => ?_)
  have hP : va_P D vwCl ((wH q5 t0 0 0) ++ ([(h0, .inr (3, [.int 0, .ref q5, .null, .null, .null, .null, .int 0, .int 0, .int 0, .int 0]))] ++ fr)) H := hP
  have hD : va_D A ((wH q5 t0 0 0) ++ ([(h0, .inr (3, [.int 0, .ref q5, .null, .null, .null, .null, .int 0, .int 0, .int 0, .int 0]))] ++ fr)) := hD
  refine lv_aload_n hx hb d_M_init_15 rfl (lv_at hl 0 rfl) ?_
  refine va_new (ci := 1) (fs := [.null]) (C := R_K) (T := T_K) (N := 1) hx hb ht in_K t_K t_K_ok hown (ht _ k_cl_M_16) (ht _ k_ins_K) (ht _ k_ini_K) hK.1 hP hD hS hA rfl (fun j hj => by rcases (show j = 0 by omega) with rfl <;> rfl) (Nat.le_of_ble_eq_true rfl) (Nat.le_of_ble_eq_true rfl) d_M_init_16 (fun q16 H hP hD hS => ?_)
  have hP := P_perm (List.perm_append_singleton _ _) hP
  have hD := D_perm (List.perm_append_singleton _ _) hD
  have hP : va_P D vwCl ([(q16, .inr (1, [.null]))] ++ ((wH q5 t0 0 0) ++ ([(h0, .inr (3, [.int 0, .ref q5, .null, .null, .null, .null, .int 0, .int 0, .int 0, .int 0]))] ++ fr))) H := hP
  have hD : va_D A ([(q16, .inr (1, [.null]))] ++ ((wH q5 t0 0 0) ++ ([(h0, .inr (3, [.int 0, .ref q5, .null, .null, .null, .null, .int 0, .int 0, .int 0, .int 0]))] ++ fr))) := hD
  refine lv_dup hx hb d_M_init_19 rfl ?_
  refine goMv (va_runIN (As := []) (rest := [.ref q16, .ref h0]) ⟨hx, hb, hml, hown, hts⟩ (c_K_init l D cI cL cO q16 ((wH q5 t0 0 0) ++ ([(h0, .inr (3, [.int 0, .ref q5, .null, .null, .null, .null, .int 0, .int 0, .int 0, .int 0]))] ++ fr))  H.size) ⟨va_cnB 0 hts (gB0 k_co_K_init) rfl rfl rfl (hK.2 _ n_ml_M_18) (ht _ k_ini_K) (by decide +kernel) ⟨Nat.le_of_ble_eq_true rfl, Nat.le_of_ble_eq_true rfl⟩, rfl, ht _ k_im_K_init⟩ ⟨PM.bl, PM.pre hP hD hK⟩ rfl rfl hl.1 rfl (lv_room (Nat.le_of_ble_eq_true rfl)) d_M_init_20 ⟨Nat.le_of_ble_eq_true rfl, Nat.le_of_ble_eq_true rfl⟩) hD hS hA (fun u H locs hw hP hD hS => ?_)
  obtain ⟨v20_0, rfl⟩ : ∃ z, z = u := ⟨_, rfl⟩
  simp only [List.append_assoc] at hP hD
  have hP : va_P D vwCl ((wK q16 v20_0) ++ ((wI3 cI v20_0 (fun _ => 0)) ++ ((wH q5 t0 0 0) ++ ([(h0, .inr (3, [.int 0, .ref q5, .null, .null, .null, .null, .int 0, .int 0, .int 0, .int 0]))] ++ fr)))) H := hP
  have hD : va_D A ((wK q16 v20_0) ++ ((wI3 cI v20_0 (fun _ => 0)) ++ ((wH q5 t0 0 0) ++ ([(h0, .inr (3, [.int 0, .ref q5, .null, .null, .null, .null, .int 0, .int 0, .int 0, .int 0]))] ++ fr)))) := hD
  refine va_putF (ci := 3) (v := .ref q16) (ty := .object "MadeRunners$Checker") (C := R_M) (T := T_M) (N := 10) hx hb ht in_M t_M t_M_ok n_M hown hK.1 hP hD hS 3 rfl rfl 2 (by decide) (ht _ k_fl_M_19) (fun _ h9 => h9) rfl hin rfl (by decide +kernel) rfl rfl (Nat.le_of_ble_eq_true rfl) d_M_init_23 (fun H locs hP hD hS => ?_)
  have hP : va_P D vwCl ((wK q16 v20_0) ++ ((wI3 cI v20_0 (fun _ => 0)) ++ ((wH q5 t0 0 0) ++ ([(h0, .inr (3, [.int 0, .ref q5, .ref q16, .null, .null, .null, .int 0, .int 0, .int 0, .int 0]))] ++ fr)))) H := hP
  have hD : va_D A ((wK q16 v20_0) ++ ((wI3 cI v20_0 (fun _ => 0)) ++ ((wH q5 t0 0 0) ++ ([(h0, .inr (3, [.int 0, .ref q5, .ref q16, .null, .null, .null, .int 0, .int 0, .int 0, .int 0]))] ++ fr)))) := hD
  refine lv_aload_n hx hb d_M_init_26 rfl (lv_at hl 0 rfl) ?_
  refine va_new (ci := 2) (fs := [.null, .null, .int 0, .int 0, .int 0, .int 0]) (C := R_U) (T := T_U) (N := 6) hx hb ht in_U t_U t_U_ok hown (ht _ k_cl_M_23) (ht _ k_ins_U) (ht _ k_ini_U) hK.1 hP hD hS hA rfl (fun j hj => by rcases (show j = 0 ∨ j = 1 ∨ j = 2 ∨ j = 3 ∨ j = 4 ∨ j = 5 by omega) with rfl | rfl | rfl | rfl | rfl | rfl <;> rfl) (Nat.le_of_ble_eq_true rfl) (Nat.le_of_ble_eq_true rfl) d_M_init_27 (fun q27 H hP hD hS => ?_)
  have hP := P_perm (List.perm_append_singleton _ _) hP
  have hD := D_perm (List.perm_append_singleton _ _) hD
  have hP : va_P D vwCl ([(q27, .inr (2, [.null, .null, .int 0, .int 0, .int 0, .int 0]))] ++ ((wK q16 v20_0) ++ ((wI3 cI v20_0 (fun _ => 0)) ++ ((wH q5 t0 0 0) ++ ([(h0, .inr (3, [.int 0, .ref q5, .ref q16, .null, .null, .null, .int 0, .int 0, .int 0, .int 0]))] ++ fr))))) H := hP
  have hD : va_D A ([(q27, .inr (2, [.null, .null, .int 0, .int 0, .int 0, .int 0]))] ++ ((wK q16 v20_0) ++ ((wI3 cI v20_0 (fun _ => 0)) ++ ((wH q5 t0 0 0) ++ ([(h0, .inr (3, [.int 0, .ref q5, .ref q16, .null, .null, .null, .int 0, .int 0, .int 0, .int 0]))] ++ fr))))) := hD
  refine lv_dup hx hb d_M_init_30 rfl ?_
  refine goMv (va_runIN (As := []) (rest := [.ref q27, .ref h0]) ⟨hx, hb, hml, hown, hts⟩ (c_U_init l D cI cL cO q27 ((wK q16 v20_0) ++ ((wI3 cI v20_0 (fun _ => 0)) ++ ((wH q5 t0 0 0) ++ ([(h0, .inr (3, [.int 0, .ref q5, .ref q16, .null, .null, .null, .int 0, .int 0, .int 0, .int 0]))] ++ fr))))  H.size) ⟨va_cnB 0 hts (gB0 k_co_U_init) rfl rfl rfl (hK.2 _ n_ml_M_25) (ht _ k_ini_U) (by decide +kernel) ⟨Nat.le_of_ble_eq_true rfl, Nat.le_of_ble_eq_true rfl⟩, rfl, ht _ k_im_U_init⟩ ⟨PM.bl, PM.pre hP hD hK⟩ rfl rfl hl.1 rfl (lv_room (Nat.le_of_ble_eq_true rfl)) d_M_init_31 ⟨Nat.le_of_ble_eq_true rfl, Nat.le_of_ble_eq_true rfl⟩) hD hS hA (fun u H locs hw hP hD hS => ?_)
  obtain ⟨v31_0, v31_1⟩ := u
  simp only [List.append_assoc] at hP hD
  have hP : va_P D vwCl ((wU q27 v31_0 v31_1 0 0 0 0) ++ ((wL4 cL v31_0 (fun _ => 0)) ++ ((wL4 cL v31_1 (fun _ => 0)) ++ ((wK q16 v20_0) ++ ((wI3 cI v20_0 (fun _ => 0)) ++ ((wH q5 t0 0 0) ++ ([(h0, .inr (3, [.int 0, .ref q5, .ref q16, .null, .null, .null, .int 0, .int 0, .int 0, .int 0]))] ++ fr))))))) H := hP
  have hD : va_D A ((wU q27 v31_0 v31_1 0 0 0 0) ++ ((wL4 cL v31_0 (fun _ => 0)) ++ ((wL4 cL v31_1 (fun _ => 0)) ++ ((wK q16 v20_0) ++ ((wI3 cI v20_0 (fun _ => 0)) ++ ((wH q5 t0 0 0) ++ ([(h0, .inr (3, [.int 0, .ref q5, .ref q16, .null, .null, .null, .int 0, .int 0, .int 0, .int 0]))] ++ fr))))))) := hD
  refine va_putF (ci := 3) (v := .ref q27) (ty := .object "MadeRunners$Runner") (C := R_M) (T := T_M) (N := 10) hx hb ht in_M t_M t_M_ok n_M hown hK.1 hP hD hS 6 rfl rfl 3 (by decide) (ht _ k_fl_M_26) (fun _ h9 => h9) rfl hin rfl (by decide +kernel) rfl rfl (Nat.le_of_ble_eq_true rfl) d_M_init_34 (fun H locs hP hD hS => ?_)
  have hP : va_P D vwCl ((wU q27 v31_0 v31_1 0 0 0 0) ++ ((wL4 cL v31_0 (fun _ => 0)) ++ ((wL4 cL v31_1 (fun _ => 0)) ++ ((wK q16 v20_0) ++ ((wI3 cI v20_0 (fun _ => 0)) ++ ((wH q5 t0 0 0) ++ ([(h0, .inr (3, [.int 0, .ref q5, .ref q16, .ref q27, .null, .null, .int 0, .int 0, .int 0, .int 0]))] ++ fr))))))) H := hP
  have hD : va_D A ((wU q27 v31_0 v31_1 0 0 0 0) ++ ((wL4 cL v31_0 (fun _ => 0)) ++ ((wL4 cL v31_1 (fun _ => 0)) ++ ((wK q16 v20_0) ++ ((wI3 cI v20_0 (fun _ => 0)) ++ ((wH q5 t0 0 0) ++ ([(h0, .inr (3, [.int 0, .ref q5, .ref q16, .ref q27, .null, .null, .int 0, .int 0, .int 0, .int 0]))] ++ fr))))))) := hD
  refine lv_aload_n hx hb d_M_init_37 rfl (lv_at hl 0 rfl) ?_
  refine va_new (ci := 2) (fs := [.null, .null, .int 0, .int 0, .int 0, .int 0]) (C := R_U) (T := T_U) (N := 6) hx hb ht in_U t_U t_U_ok hown (ht _ k_cl_M_23) (ht _ k_ins_U) (ht _ k_ini_U) hK.1 hP hD hS hA rfl (fun j hj => by rcases (show j = 0 ∨ j = 1 ∨ j = 2 ∨ j = 3 ∨ j = 4 ∨ j = 5 by omega) with rfl | rfl | rfl | rfl | rfl | rfl <;> rfl) (Nat.le_of_ble_eq_true rfl) (Nat.le_of_ble_eq_true rfl) d_M_init_38 (fun q38 H hP hD hS => ?_)
  have hP := P_perm (List.perm_append_singleton _ _) hP
  have hD := D_perm (List.perm_append_singleton _ _) hD
  have hP : va_P D vwCl ([(q38, .inr (2, [.null, .null, .int 0, .int 0, .int 0, .int 0]))] ++ ((wU q27 v31_0 v31_1 0 0 0 0) ++ ((wL4 cL v31_0 (fun _ => 0)) ++ ((wL4 cL v31_1 (fun _ => 0)) ++ ((wK q16 v20_0) ++ ((wI3 cI v20_0 (fun _ => 0)) ++ ((wH q5 t0 0 0) ++ ([(h0, .inr (3, [.int 0, .ref q5, .ref q16, .ref q27, .null, .null, .int 0, .int 0, .int 0, .int 0]))] ++ fr)))))))) H := hP
  have hD : va_D A ([(q38, .inr (2, [.null, .null, .int 0, .int 0, .int 0, .int 0]))] ++ ((wU q27 v31_0 v31_1 0 0 0 0) ++ ((wL4 cL v31_0 (fun _ => 0)) ++ ((wL4 cL v31_1 (fun _ => 0)) ++ ((wK q16 v20_0) ++ ((wI3 cI v20_0 (fun _ => 0)) ++ ((wH q5 t0 0 0) ++ ([(h0, .inr (3, [.int 0, .ref q5, .ref q16, .ref q27, .null, .null, .int 0, .int 0, .int 0, .int 0]))] ++ fr)))))))) := hD
  refine lv_dup hx hb d_M_init_41 rfl ?_
  refine goMv (va_runIN (As := []) (rest := [.ref q38, .ref h0]) ⟨hx, hb, hml, hown, hts⟩ (c_U_init l D cI cL cO q38 ((wU q27 v31_0 v31_1 0 0 0 0) ++ ((wL4 cL v31_0 (fun _ => 0)) ++ ((wL4 cL v31_1 (fun _ => 0)) ++ ((wK q16 v20_0) ++ ((wI3 cI v20_0 (fun _ => 0)) ++ ((wH q5 t0 0 0) ++ ([(h0, .inr (3, [.int 0, .ref q5, .ref q16, .ref q27, .null, .null, .int 0, .int 0, .int 0, .int 0]))] ++ fr)))))))  H.size) ⟨va_cnB 0 hts (gB0 k_co_U_init) rfl rfl rfl (hK.2 _ n_ml_M_25) (ht _ k_ini_U) (by decide +kernel) ⟨Nat.le_of_ble_eq_true rfl, Nat.le_of_ble_eq_true rfl⟩, rfl, ht _ k_im_U_init⟩ ⟨PM.bl, PM.pre hP hD hK⟩ rfl rfl hl.1 rfl (lv_room (Nat.le_of_ble_eq_true rfl)) d_M_init_42 ⟨Nat.le_of_ble_eq_true rfl, Nat.le_of_ble_eq_true rfl⟩) hD hS hA (fun u H locs hw hP hD hS => ?_)
  obtain ⟨v42_0, v42_1⟩ := u
  simp only [List.append_assoc] at hP hD
  have hP : va_P D vwCl ((wU q38 v42_0 v42_1 0 0 0 0) ++ ((wL4 cL v42_0 (fun _ => 0)) ++ ((wL4 cL v42_1 (fun _ => 0)) ++ ((wU q27 v31_0 v31_1 0 0 0 0) ++ ((wL4 cL v31_0 (fun _ => 0)) ++ ((wL4 cL v31_1 (fun _ => 0)) ++ ((wK q16 v20_0) ++ ((wI3 cI v20_0 (fun _ => 0)) ++ ((wH q5 t0 0 0) ++ ([(h0, .inr (3, [.int 0, .ref q5, .ref q16, .ref q27, .null, .null, .int 0, .int 0, .int 0, .int 0]))] ++ fr)))))))))) H := hP
  have hD : va_D A ((wU q38 v42_0 v42_1 0 0 0 0) ++ ((wL4 cL v42_0 (fun _ => 0)) ++ ((wL4 cL v42_1 (fun _ => 0)) ++ ((wU q27 v31_0 v31_1 0 0 0 0) ++ ((wL4 cL v31_0 (fun _ => 0)) ++ ((wL4 cL v31_1 (fun _ => 0)) ++ ((wK q16 v20_0) ++ ((wI3 cI v20_0 (fun _ => 0)) ++ ((wH q5 t0 0 0) ++ ([(h0, .inr (3, [.int 0, .ref q5, .ref q16, .ref q27, .null, .null, .int 0, .int 0, .int 0, .int 0]))] ++ fr)))))))))) := hD
  refine va_putF (ci := 3) (v := .ref q38) (ty := .object "MadeRunners$Runner") (C := R_M) (T := T_M) (N := 10) hx hb ht in_M t_M t_M_ok n_M hown hK.1 hP hD hS 9 rfl rfl 4 (by decide) (ht _ k_fl_M_30) (fun _ h9 => h9) rfl hin rfl (by decide +kernel) rfl rfl (Nat.le_of_ble_eq_true rfl) d_M_init_45 (fun H locs hP hD hS => ?_)
  have hP : va_P D vwCl ((wU q38 v42_0 v42_1 0 0 0 0) ++ ((wL4 cL v42_0 (fun _ => 0)) ++ ((wL4 cL v42_1 (fun _ => 0)) ++ ((wU q27 v31_0 v31_1 0 0 0 0) ++ ((wL4 cL v31_0 (fun _ => 0)) ++ ((wL4 cL v31_1 (fun _ => 0)) ++ ((wK q16 v20_0) ++ ((wI3 cI v20_0 (fun _ => 0)) ++ ((wH q5 t0 0 0) ++ ([(h0, .inr (3, [.int 0, .ref q5, .ref q16, .ref q27, .ref q38, .null, .int 0, .int 0, .int 0, .int 0]))] ++ fr)))))))))) H := hP
  have hD : va_D A ((wU q38 v42_0 v42_1 0 0 0 0) ++ ((wL4 cL v42_0 (fun _ => 0)) ++ ((wL4 cL v42_1 (fun _ => 0)) ++ ((wU q27 v31_0 v31_1 0 0 0 0) ++ ((wL4 cL v31_0 (fun _ => 0)) ++ ((wL4 cL v31_1 (fun _ => 0)) ++ ((wK q16 v20_0) ++ ((wI3 cI v20_0 (fun _ => 0)) ++ ((wH q5 t0 0 0) ++ ([(h0, .inr (3, [.int 0, .ref q5, .ref q16, .ref q27, .ref q38, .null, .int 0, .int 0, .int 0, .int 0]))] ++ fr)))))))))) := hD
  refine lv_aload_n hx hb d_M_init_48 rfl (lv_at hl 0 rfl) ?_
  refine va_new (ci := 2) (fs := [.null, .null, .int 0, .int 0, .int 0, .int 0]) (C := R_U) (T := T_U) (N := 6) hx hb ht in_U t_U t_U_ok hown (ht _ k_cl_M_23) (ht _ k_ins_U) (ht _ k_ini_U) hK.1 hP hD hS hA rfl (fun j hj => by rcases (show j = 0 ∨ j = 1 ∨ j = 2 ∨ j = 3 ∨ j = 4 ∨ j = 5 by omega) with rfl | rfl | rfl | rfl | rfl | rfl <;> rfl) (Nat.le_of_ble_eq_true rfl) (Nat.le_of_ble_eq_true rfl) d_M_init_49 (fun q49 H hP hD hS => ?_)
  have hP := P_perm (List.perm_append_singleton _ _) hP
  have hD := D_perm (List.perm_append_singleton _ _) hD
  have hP : va_P D vwCl ([(q49, .inr (2, [.null, .null, .int 0, .int 0, .int 0, .int 0]))] ++ ((wU q38 v42_0 v42_1 0 0 0 0) ++ ((wL4 cL v42_0 (fun _ => 0)) ++ ((wL4 cL v42_1 (fun _ => 0)) ++ ((wU q27 v31_0 v31_1 0 0 0 0) ++ ((wL4 cL v31_0 (fun _ => 0)) ++ ((wL4 cL v31_1 (fun _ => 0)) ++ ((wK q16 v20_0) ++ ((wI3 cI v20_0 (fun _ => 0)) ++ ((wH q5 t0 0 0) ++ ([(h0, .inr (3, [.int 0, .ref q5, .ref q16, .ref q27, .ref q38, .null, .int 0, .int 0, .int 0, .int 0]))] ++ fr))))))))))) H := hP
  have hD : va_D A ([(q49, .inr (2, [.null, .null, .int 0, .int 0, .int 0, .int 0]))] ++ ((wU q38 v42_0 v42_1 0 0 0 0) ++ ((wL4 cL v42_0 (fun _ => 0)) ++ ((wL4 cL v42_1 (fun _ => 0)) ++ ((wU q27 v31_0 v31_1 0 0 0 0) ++ ((wL4 cL v31_0 (fun _ => 0)) ++ ((wL4 cL v31_1 (fun _ => 0)) ++ ((wK q16 v20_0) ++ ((wI3 cI v20_0 (fun _ => 0)) ++ ((wH q5 t0 0 0) ++ ([(h0, .inr (3, [.int 0, .ref q5, .ref q16, .ref q27, .ref q38, .null, .int 0, .int 0, .int 0, .int 0]))] ++ fr))))))))))) := hD
  refine lv_dup hx hb d_M_init_52 rfl ?_
  refine goMv (va_runIN (As := []) (rest := [.ref q49, .ref h0]) ⟨hx, hb, hml, hown, hts⟩ (c_U_init l D cI cL cO q49 ((wU q38 v42_0 v42_1 0 0 0 0) ++ ((wL4 cL v42_0 (fun _ => 0)) ++ ((wL4 cL v42_1 (fun _ => 0)) ++ ((wU q27 v31_0 v31_1 0 0 0 0) ++ ((wL4 cL v31_0 (fun _ => 0)) ++ ((wL4 cL v31_1 (fun _ => 0)) ++ ((wK q16 v20_0) ++ ((wI3 cI v20_0 (fun _ => 0)) ++ ((wH q5 t0 0 0) ++ ([(h0, .inr (3, [.int 0, .ref q5, .ref q16, .ref q27, .ref q38, .null, .int 0, .int 0, .int 0, .int 0]))] ++ fr))))))))))  H.size) ⟨va_cnB 0 hts (gB0 k_co_U_init) rfl rfl rfl (hK.2 _ n_ml_M_25) (ht _ k_ini_U) (by decide +kernel) ⟨Nat.le_of_ble_eq_true rfl, Nat.le_of_ble_eq_true rfl⟩, rfl, ht _ k_im_U_init⟩ ⟨PM.bl, PM.pre hP hD hK⟩ rfl rfl hl.1 rfl (lv_room (Nat.le_of_ble_eq_true rfl)) d_M_init_53 ⟨Nat.le_of_ble_eq_true rfl, Nat.le_of_ble_eq_true rfl⟩) hD hS hA (fun u H locs hw hP hD hS => ?_)
  obtain ⟨v53_0, v53_1⟩ := u
  simp only [List.append_assoc] at hP hD
  have hP : va_P D vwCl ((wU q49 v53_0 v53_1 0 0 0 0) ++ ((wL4 cL v53_0 (fun _ => 0)) ++ ((wL4 cL v53_1 (fun _ => 0)) ++ ((wU q38 v42_0 v42_1 0 0 0 0) ++ ((wL4 cL v42_0 (fun _ => 0)) ++ ((wL4 cL v42_1 (fun _ => 0)) ++ ((wU q27 v31_0 v31_1 0 0 0 0) ++ ((wL4 cL v31_0 (fun _ => 0)) ++ ((wL4 cL v31_1 (fun _ => 0)) ++ ((wK q16 v20_0) ++ ((wI3 cI v20_0 (fun _ => 0)) ++ ((wH q5 t0 0 0) ++ ([(h0, .inr (3, [.int 0, .ref q5, .ref q16, .ref q27, .ref q38, .null, .int 0, .int 0, .int 0, .int 0]))] ++ fr))))))))))))) H := hP
  have hD : va_D A ((wU q49 v53_0 v53_1 0 0 0 0) ++ ((wL4 cL v53_0 (fun _ => 0)) ++ ((wL4 cL v53_1 (fun _ => 0)) ++ ((wU q38 v42_0 v42_1 0 0 0 0) ++ ((wL4 cL v42_0 (fun _ => 0)) ++ ((wL4 cL v42_1 (fun _ => 0)) ++ ((wU q27 v31_0 v31_1 0 0 0 0) ++ ((wL4 cL v31_0 (fun _ => 0)) ++ ((wL4 cL v31_1 (fun _ => 0)) ++ ((wK q16 v20_0) ++ ((wI3 cI v20_0 (fun _ => 0)) ++ ((wH q5 t0 0 0) ++ ([(h0, .inr (3, [.int 0, .ref q5, .ref q16, .ref q27, .ref q38, .null, .int 0, .int 0, .int 0, .int 0]))] ++ fr))))))))))))) := hD
  refine va_putF (ci := 3) (v := .ref q49) (ty := .object "MadeRunners$Runner") (C := R_M) (T := T_M) (N := 10) hx hb ht in_M t_M t_M_ok n_M hown hK.1 hP hD hS 12 rfl rfl 5 (by decide) (ht _ k_fl_M_33) (fun _ h9 => h9) rfl hin rfl (by decide +kernel) rfl rfl (Nat.le_of_ble_eq_true rfl) d_M_init_56 (fun H locs hP hD hS => ?_)
  have hP : va_P D vwCl ((wU q49 v53_0 v53_1 0 0 0 0) ++ ((wL4 cL v53_0 (fun _ => 0)) ++ ((wL4 cL v53_1 (fun _ => 0)) ++ ((wU q38 v42_0 v42_1 0 0 0 0) ++ ((wL4 cL v42_0 (fun _ => 0)) ++ ((wL4 cL v42_1 (fun _ => 0)) ++ ((wU q27 v31_0 v31_1 0 0 0 0) ++ ((wL4 cL v31_0 (fun _ => 0)) ++ ((wL4 cL v31_1 (fun _ => 0)) ++ ((wK q16 v20_0) ++ ((wI3 cI v20_0 (fun _ => 0)) ++ ((wH q5 t0 0 0) ++ ([(h0, .inr (3, [.int 0, .ref q5, .ref q16, .ref q27, .ref q38, .ref q49, .int 0, .int 0, .int 0, .int 0]))] ++ fr))))))))))))) H := hP
  have hD : va_D A ((wU q49 v53_0 v53_1 0 0 0 0) ++ ((wL4 cL v53_0 (fun _ => 0)) ++ ((wL4 cL v53_1 (fun _ => 0)) ++ ((wU q38 v42_0 v42_1 0 0 0 0) ++ ((wL4 cL v42_0 (fun _ => 0)) ++ ((wL4 cL v42_1 (fun _ => 0)) ++ ((wU q27 v31_0 v31_1 0 0 0 0) ++ ((wL4 cL v31_0 (fun _ => 0)) ++ ((wL4 cL v31_1 (fun _ => 0)) ++ ((wK q16 v20_0) ++ ((wI3 cI v20_0 (fun _ => 0)) ++ ((wH q5 t0 0 0) ++ ([(h0, .inr (3, [.int 0, .ref q5, .ref q16, .ref q27, .ref q38, .ref q49, .int 0, .int 0, .int 0, .int 0]))] ++ fr))))))))))))) := hD
  refine lv_aload_n hx hb d_M_init_59 rfl (lv_at hl 0 rfl) ?_
  refine lv_iconst (v := 1) hx hb d_M_init_60 (by decide) ?_
  refine lv_iload_n hx hb d_M_init_61 rfl (lv_at hl 1 rfl) ?_
  refine lv_iconst (v := 1) hx hb d_M_init_62 (by decide) ?_
  refine lv_isub hx hb d_M_init_63 ?_
  refine lv_bipush (v := 8) hx hb d_M_init_64 (by decide) ?_
  refine goRi (va_runS (As := [.int (gs - 1), .int 8]) (rest := [.int 1, .ref h0]) ⟨hx, hb, hml, hown, hts⟩ (c_Ma_floorMod l D cI cL cO (gs - 1) 8 rfl) (va_cwS 2 hts (gBIG (m3 k_ml_M_36 k_st_Ma_floorMod k_ini_Ma) k_co_Ma_floorMod) rfl rfl rfl (by decide +kernel) ⟨Nat.le_of_ble_eq_true rfl, Nat.le_of_ble_eq_true rfl⟩) ⟨PR.bl, PR.pre P_nil hK⟩ rfl rfl hl.1 rfl (lv_room (Nat.le_of_ble_eq_true rfl)) d_M_init_66 ⟨Nat.le_of_ble_eq_true rfl, Nat.le_of_ble_eq_true rfl⟩) ?_
  refine lv_iadd hx hb d_M_init_69 ?_
  refine va_putF (ci := 3) (v := .int (1 + (fmF (gs - 1)))) (ty := .int) (C := R_M) (T := T_M) (N := 10) hx hb ht in_M t_M t_M_ok n_M hown hK.1 hP hD hS 12 rfl rfl 0 (by decide) (ht _ k_fl_M_42) (fun _ h9 => h9) rfl hin rfl (by decide +kernel) rfl rfl (Nat.le_of_ble_eq_true rfl) d_M_init_70 (fun H locs hP hD hS => ?_)
  have hP : va_P D vwCl ((wU q49 v53_0 v53_1 0 0 0 0) ++ ((wL4 cL v53_0 (fun _ => 0)) ++ ((wL4 cL v53_1 (fun _ => 0)) ++ ((wU q38 v42_0 v42_1 0 0 0 0) ++ ((wL4 cL v42_0 (fun _ => 0)) ++ ((wL4 cL v42_1 (fun _ => 0)) ++ ((wU q27 v31_0 v31_1 0 0 0 0) ++ ((wL4 cL v31_0 (fun _ => 0)) ++ ((wL4 cL v31_1 (fun _ => 0)) ++ ((wK q16 v20_0) ++ ((wI3 cI v20_0 (fun _ => 0)) ++ ((wH q5 t0 0 0) ++ ([(h0, .inr (3, [.int (1 + (fmF (gs - 1))), .ref q5, .ref q16, .ref q27, .ref q38, .ref q49, .int 0, .int 0, .int 0, .int 0]))] ++ fr))))))))))))) H := hP
  have hD : va_D A ((wU q49 v53_0 v53_1 0 0 0 0) ++ ((wL4 cL v53_0 (fun _ => 0)) ++ ((wL4 cL v53_1 (fun _ => 0)) ++ ((wU q38 v42_0 v42_1 0 0 0 0) ++ ((wL4 cL v42_0 (fun _ => 0)) ++ ((wL4 cL v42_1 (fun _ => 0)) ++ ((wU q27 v31_0 v31_1 0 0 0 0) ++ ((wL4 cL v31_0 (fun _ => 0)) ++ ((wL4 cL v31_1 (fun _ => 0)) ++ ((wK q16 v20_0) ++ ((wI3 cI v20_0 (fun _ => 0)) ++ ((wH q5 t0 0 0) ++ ([(h0, .inr (3, [.int (1 + (fmF (gs - 1))), .ref q5, .ref q16, .ref q27, .ref q38, .ref q49, .int 0, .int 0, .int 0, .int 0]))] ++ fr))))))))))))) := hD
  rw [hQ]; exact retMv (w1 := fun u : Nat × Nat × Nat × Nat × Nat × Nat × Nat × Nat × Nat × Nat × Nat × Nat => (wU u.2.2.2.2.2.2.2.2.2.1 u.2.2.2.2.2.2.2.2.2.2.1 u.2.2.2.2.2.2.2.2.2.2.2 0 0 0 0 ++ (wL4 cL u.2.2.2.2.2.2.2.2.2.2.1 (fun _ => 0) ++ (wL4 cL u.2.2.2.2.2.2.2.2.2.2.2 (fun _ => 0) ++ (wU u.2.2.2.2.2.2.1 u.2.2.2.2.2.2.2.1 u.2.2.2.2.2.2.2.2.1 0 0 0 0 ++ (wL4 cL u.2.2.2.2.2.2.2.1 (fun _ => 0) ++ (wL4 cL u.2.2.2.2.2.2.2.2.1 (fun _ => 0) ++ (wU u.2.2.2.1 u.2.2.2.2.1 u.2.2.2.2.2.1 0 0 0 0 ++ (wL4 cL u.2.2.2.2.1 (fun _ => 0) ++ (wL4 cL u.2.2.2.2.2.1 (fun _ => 0) ++ (wK u.2.1 u.2.2.1 ++ (wI3 cI u.2.2.1 (fun _ => 0) ++ (wH u.1 t0 0 0 ++ (wX h0 (1 + fmF (gs - 1)) u.1 u.2.1 u.2.2.2.1 u.2.2.2.2.2.2.1 u.2.2.2.2.2.2.2.2.2.1 0 0 0 0 ++ fr)))))))))))))) (q5, q16, v20_0, q27, v31_0, v31_1, q38, v42_0, v42_1, q49, v53_0, v53_1) hx hb hr hlocks hP hD hS trivial d_M_init_73
