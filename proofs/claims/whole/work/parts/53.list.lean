def wH (a0 : Nat) (d0 : Nat) (sz : Int32) (mo : Int32) : va_W := [(a0, .inr (4, [.ref d0, .int sz, .int mo]))]
def wR (cO : ClassId) (d0 : Nat) (cap : Nat) (rf : Nat → Option Nat) : va_W := [(d0, .inl (cO, cap, .inr (.inr (.inr (.inr rf)))))]
theorem n_ca_BB : .castable R_B R_B ∈ nw_l := List.mem_filter.mpr ⟨by decide +kernel, by decide +kernel⟩
theorem n_ca_BO : .castable R_B R_O ∈ nw_l := List.mem_filter.mpr ⟨by decide +kernel, by decide +kernel⟩
/-- the list's elements are blocks of the frame -/
def elB (rf : Nat → Option Nat) (k : Nat) (fr : va_W) : Prop := ∀ j y : Nat, j < k → rf j = some y → ∃ fs, (y, (.inr (0, fs) : va_E)) ∈ fr
theorem any_B {D : va_G} {cI cL cO : ClassId} {s : State} {H : Heap} {w : va_W} {y : Nat} (hK : KW D cI cL cO s) (hP : va_P D vwCl w H) (h : ∃ fs, (y, (.inr (0, fs) : va_E)) ∈ w) : va_Any R_O s H y := by
  obtain ⟨fs, h⟩ := h
  obtain ⟨k, hk⟩ := List.mem_iff_getElem?.mp h
  obtain ⟨c0, t0, f1, f2, f3⟩ := Cond.castable_spec (va_Nw.use (A := #[]) rfl (hK.2 _ n_ca_BO))
  exact va_rAny (r := (R_B, T_B, 9)) hK.1 hP hk rfl (fun comp c1 h1 h2 => by
    cases f2.symm.trans h1
    cases f1.symm.trans h2
    exact f3)
theorem ky_sf : .sameField "java/util/ArrayList" "java/util/AbstractList" "modCount" "I" ∈ BIG := bmm (by decide +kernel) (by decide +kernel)
theorem ky_gc : .methodLink R_Ar 86 ⟨"java/lang/Object", "getClass", "()Ljava/lang/Class;"⟩ ∈ BIG := bmm (by decide +kernel) (by decide +kernel)
theorem ky_gs : .selects sDD ⟨"java/lang/Object", "getClass", "()Ljava/lang/Class;"⟩ ⟨"java/lang/Object", "getClass", "()Ljava/lang/Class;"⟩ ∈ BIG := bmm (by decide +kernel) (by decide +kernel)
theorem ky_gi : .instanceMethod ⟨"java/lang/Object", "getClass", "()Ljava/lang/Class;"⟩ ∈ BIG := bmm (by decide +kernel) (by decide +kernel)
theorem ky_gn : .native ⟨"java/lang/Object", "getClass", "()Ljava/lang/Class;"⟩ ∈ BIG := bmm (by decide +kernel) (by decide +kernel)
theorem ky_gd : .declares ⟨"java/lang/Object", "getClass", "()Ljava/lang/Class;"⟩ ∈ nw_l := List.mem_filter.mpr ⟨by decide +kernel, by decide +kernel⟩
theorem ky_al : .methodLink R_Ar 150 arraycopyName ∈ BIG := bmm (by decide +kernel) (by decide +kernel)
theorem ky_as : .static arraycopyName ∈ BIG := bmm (by decide +kernel) (by decide +kernel)
theorem ky_an : .native arraycopyName ∈ BIG := bmm (by decide +kernel) (by decide +kernel)
theorem ky_si : .initialized "java/lang/System" ∈ BIG := bmm (by decide +kernel) (by decide +kernel)
theorem ky_ca : .classLink R_Ar 110 sDD ∈ BIG := bmm (by decide +kernel) (by decide +kernel)
theorem nIc {n : Nat} (h : n < 2 ^ 31) : (nI n).toNatClampNeg = n := nI_clamp h
section NewQ
variable {p : Program} {l : Launch} {e : Env} {R : Room} {s : State} {m : MethodId} {args : Array Value} {below : List Frame} {meth : Method} {c : Code} {H : Heap} {locs : List Loc} {cells slots : Nat} {Q : State → Prop} {cc : ByteArray} {pc : Nat} {ls : Array Slot} {rest : List Value} {D : va_G} {cI cL cO : ClassId} {A : Nat → Prop} {w : va_W}
theorem newQ {own : String} {index : Nat} (hx : p.tables.exec = Jvm.exec) (hb : c.code = cc) (hown : s.vm.findClass own = some m.cls) (hcl : (Cond.classLink own index R_O).before args s = true) (hO : va_AO R_O s) (hK : KW D cI cL cO s) (hP : va_P D vwCl w H) (hD : va_D A w) (hS : va_S A s.heap H locs) (hA : ∀ q : Nat, s.heap.size ≤ q → A q)
    {n : Int32} {N : Nat} (hn : ¬ n < 0) (hN : n.toNatClampNeg = N) (hby : N * 4 ≤ 536870912) (hc : cells + 1 ≤ R.cells) (hs : slots + N ≤ R.slots) (hd : decode cc pc = .ok (.anewarray index, 3))
    (kk : ∀ (q : Nat) (H1 : Heap), va_P D vwCl (wR cO q N (fun _ => none) ++ w) H1 → va_D A (wR cO q N (fun _ => none) ++ w) → va_S A s.heap H1 locs → W p l e R s m args below meth c H1 locs (cells + 1) (slots + N) Q (F0 m (pc + 3) ls (.ref q :: rest))) : W p l e R s m args below meth c H locs cells slots Q (F0 m pc ls (.int n :: rest)) := by
  refine va_newq hx hb hown hcl hO hK.1 hP hD hS hA hn hN hby hc hs hd (fun q cA H1 hK1 hP1 hD1 hS1 => ?_)
  obtain ⟨-, -, -, -, -, h1⟩ := (hK1.2 3 (cA, .object R_O) rfl).2
  obtain ⟨-, -, -, -, -, h2⟩ := (hK.1.2 2 (cO, .object R_O) rfl).2
  have e1 : cA = cO := Option.some.inj (h1.symm.trans h2)
  subst e1
  exact kk q H1 (P_perm (List.perm_append_singleton _ _) hP1) (D_perm (List.perm_append_singleton _ _) hD1) hS1
end NewQ

abbrev w_A_size : List Cond := .code y_A_size b_A_size 1 (some .int) :: BIG
set_option maxHeartbeats 1000000 in
set_option maxRecDepth 100000 in
theorem c_A_size (l : Launch) (D : va_G) (cI cL cO : ClassId) (a0 : Nat) (d0 : Nat) (sz : Int32) (mo : Int32) : CRi l y_A_size w_A_size ({ frames := 0, cells := 0, slots := 0, locals := 0 }) D cI cL cO [.ref a0] (wH a0 d0 sz mo) sz := by
  refine ofR (cc := b_A_size) (maxL := 1) (ret := (some .int)) (by decide) rfl (Nat.le_of_ble_eq_true rfl) ?_
  intro p e s m below meth c ls Q hQ hx hb hr hlocks hts hown hml hP hK hl
  have hl : lv_has ls 1 [(0, .ref a0)] := hl
  have hown : s.vm.findClass R_A = some m.cls := hown
  have ht : ∀ w ∈ BIG, w.before _ s = true := fun w h => hts w (List.mem_cons_of_mem _ h)
  refine lv_aload_n hx hb d_A_size_0 rfl (lv_at hl 0 rfl) ?_
  refine va_get (ci := 4) (v := .int sz) (C := R_A) (T := T_A) (N := 3) hx hb ht in_A hown hK.1 hP 0 rfl rfl 1 (by decide) (ht _ k_fl_A_48) (fun _ h9 => h9) rfl d_A_size_1 ?_
  rw [hQ]; exact retRi hx hb hr hlocks (by first | (simp only []; done) | simp []) d_A_size_4

abbrev w_Pr_checkIndex : List Cond := .code y_Pr_checkIndex b_Pr_checkIndex 3 (some .int) :: BIG
set_option maxHeartbeats 1000000 in
set_option maxRecDepth 100000 in
theorem c_Pr_checkIndex (l : Launch) (D : va_G) (cI cL cO : ClassId) (i : Int32) (n : Int32) (h0 : ¬ i < 0) (h1 : i < n) : CRi l y_Pr_checkIndex w_Pr_checkIndex ({ frames := 0, cells := 0, slots := 0, locals := 0 }) D cI cL cO [.int i, .int n, .null] ([]) i := by
  refine ofR (cc := b_Pr_checkIndex) (maxL := 3) (ret := (some .int)) (by decide) rfl (Nat.le_of_ble_eq_true rfl) ?_
  intro p e s m below meth c ls Q hQ hx hb hr hlocks hts hown hml hP hK hl
  have hl : lv_has ls 3 [(0, .int i), (1, .int n), (2, .null)] := hl
  have hown : s.vm.findClass R_Pr = some m.cls := hown
  have ht : ∀ w ∈ BIG, w.before _ s = true := fun w h => hts w (List.mem_cons_of_mem _ h)
  refine lv_iload_n hx hb d_Pr_checkIndex_0 rfl (lv_at hl 0 rfl) ?_
  refine lv_if_lt (tgt := 9) hx hb d_Pr_checkIndex_1 (by decide) (fun c_1 => ?_) (fun c_1 => ?_)
  · exact absurd c_1 h0
  · refine lv_iload_n hx hb d_Pr_checkIndex_4 rfl (lv_at hl 0 rfl) ?_
    refine lv_iload_n hx hb d_Pr_checkIndex_5 rfl (lv_at hl 1 rfl) ?_
    refine lv_icmp_lt (tgt := 16) hx hb d_Pr_checkIndex_6 (by decide) (fun c_6 => ?_) (fun c_6 => ?_)
    · refine lv_iload_n hx hb d_Pr_checkIndex_16 rfl (lv_at hl 0 rfl) ?_
      rw [hQ]; exact retRi hx hb hr hlocks rfl d_Pr_checkIndex_17
    · exact absurd h1 c_6

abbrev w_Ob_checkIndex : List Cond := .code y_Ob_checkIndex b_Ob_checkIndex 2 (some .int) :: BIG
set_option maxHeartbeats 1000000 in
set_option maxRecDepth 100000 in
theorem c_Ob_checkIndex (l : Launch) (D : va_G) (cI cL cO : ClassId) (i : Int32) (n : Int32) (h0 : ¬ i < 0) (h1 : i < n) : CRi l y_Ob_checkIndex w_Ob_checkIndex ({ frames := 1, cells := 0, slots := 0, locals := 22 }) D cI cL cO [.int i, .int n] ([]) i := by
  refine ofR (cc := b_Ob_checkIndex) (maxL := 2) (ret := (some .int)) (by decide) rfl (Nat.le_of_ble_eq_true rfl) ?_
  intro p e s m below meth c ls Q hQ hx hb hr hlocks hts hown hml hP hK hl
  have hl : lv_has ls 2 [(0, .int i), (1, .int n)] := hl
  have hown : s.vm.findClass R_Ob = some m.cls := hown
  have ht : ∀ w ∈ BIG, w.before _ s = true := fun w h => hts w (List.mem_cons_of_mem _ h)
  refine lv_iload_n hx hb d_Ob_checkIndex_0 rfl (lv_at hl 0 rfl) ?_
  refine lv_iload_n hx hb d_Ob_checkIndex_1 rfl (lv_at hl 1 rfl) ?_
  refine lv_null hx hb d_Ob_checkIndex_2 ?_
  refine goRi (va_runS (As := [.int i, .int n, .null]) (rest := []) ⟨hx, hb, hml, hown, hts⟩ (c_Pr_checkIndex l D cI cL cO i n h0 h1) (va_cwS 3 hts (gBIG (m3 k_ml_Ob_105 k_st_Pr_checkIndex k_ini_Pr) k_co_Pr_checkIndex) rfl rfl rfl (by decide +kernel) ⟨Nat.le_of_ble_eq_true rfl, Nat.le_of_ble_eq_true rfl⟩) ⟨PR.bl, PR.pre P_nil hK⟩ rfl rfl hl.1 rfl (lv_room (Nat.le_of_ble_eq_true rfl)) d_Ob_checkIndex_3 ⟨Nat.le_of_ble_eq_true rfl, Nat.le_of_ble_eq_true rfl⟩) ?_
  rw [hQ]; exact retRi hx hb hr hlocks rfl d_Ob_checkIndex_6

abbrev w_A_elementData : List Cond := .code y_A_elementData b_A_elementData 2 (some (.object "java/lang/Object")) :: BIG
set_option maxHeartbeats 1000000 in
set_option maxRecDepth 100000 in
theorem c_A_elementData (l : Launch) (D : va_G) (cI cL cO : ClassId) (a0 : Nat) (d0 : Nat) (sz : Int32) (mo : Int32) (cap : Nat) (rf : Nat → Option Nat) (i : Int32) (y : Nat) (hi : vp_in i cap) (hv : rf i.toNatClampNeg = some y) : CRv l y_A_elementData w_A_elementData ({ frames := 0, cells := 0, slots := 0, locals := 0 }) D cI cL cO [.ref a0, .int i] ((wH a0 d0 sz mo) ++ (wR cO d0 cap rf)) (.ref y) := by
  refine ofR (cc := b_A_elementData) (maxL := 2) (ret := (some (.object "java/lang/Object"))) (by decide) rfl (Nat.le_of_ble_eq_true rfl) ?_
  intro p e s m below meth c ls Q hQ hx hb hr hlocks hts hown hml hP hK hl
  have hl : lv_has ls 2 [(0, .ref a0), (1, .int i)] := hl
  have hown : s.vm.findClass R_A = some m.cls := hown
  have ht : ∀ w ∈ BIG, w.before _ s = true := fun w h => hts w (List.mem_cons_of_mem _ h)
  refine lv_aload_n hx hb d_A_elementData_0 rfl (lv_at hl 0 rfl) ?_
  refine va_get (ci := 4) (v := .ref d0) (C := R_A) (T := T_A) (N := 3) hx hb ht in_A hown hK.1 hP 0 rfl rfl 0 (by decide) (ht _ k_fl_A_9) (fun _ h9 => h9) rfl d_A_elementData_1 ?_
  refine lv_iload_n hx hb d_A_elementData_4 rfl (lv_at hl 1 rfl) ?_
  refine va_aldq hx hb hK.1 hP 1 2 rfl rfl hi d_A_elementData_5 ?_
  rw [show va_rf (rf i.toNatClampNeg) = .ref y from (by rw [hv]; rfl)]
  rw [hQ]; exact retRv hx hb hr (Or.inl ⟨_, rfl⟩) (Or.inr ⟨_, rfl⟩) hlocks rfl d_A_elementData_6

abbrev w_A_get : List Cond := .code y_A_get b_A_get 2 (some (.object "java/lang/Object")) :: BIG
set_option maxHeartbeats 1000000 in
set_option maxRecDepth 100000 in
theorem c_A_get (l : Launch) (D : va_G) (cI cL cO : ClassId) (a0 : Nat) (d0 : Nat) (sz : Int32) (mo : Int32) (cap : Nat) (rf : Nat → Option Nat) (i : Int32) (y : Nat) (h0 : ¬ i < 0) (h1 : i < sz) (hi : vp_in i cap) (hv : rf i.toNatClampNeg = some y) : CRv l y_A_get w_A_get ({ frames := 2, cells := 0, slots := 0, locals := 43 }) D cI cL cO [.ref a0, .int i] ((wH a0 d0 sz mo) ++ (wR cO d0 cap rf)) (.ref y) := by
  refine ofR (cc := b_A_get) (maxL := 2) (ret := (some (.object "java/lang/Object"))) (by decide) rfl (Nat.le_of_ble_eq_true rfl) ?_
  intro p e s m below meth c ls Q hQ hx hb hr hlocks hts hown hml hP hK hl
  have hl : lv_has ls 2 [(0, .ref a0), (1, .int i)] := hl
  have hown : s.vm.findClass R_A = some m.cls := hown
  have ht : ∀ w ∈ BIG, w.before _ s = true := fun w h => hts w (List.mem_cons_of_mem _ h)
  refine lv_iload_n hx hb d_A_get_0 rfl (lv_at hl 1 rfl) ?_
  refine lv_aload_n hx hb d_A_get_1 rfl (lv_at hl 0 rfl) ?_
  refine va_get (ci := 4) (v := .int sz) (C := R_A) (T := T_A) (N := 3) hx hb ht in_A hown hK.1 hP 0 rfl rfl 1 (by decide) (ht _ k_fl_A_48) (fun _ h9 => h9) rfl d_A_get_2 ?_
  refine goRi (va_runS (As := [.int i, .int sz]) (rest := []) ⟨hx, hb, hml, hown, hts⟩ (c_Ob_checkIndex l D cI cL cO i sz h0 h1) (va_cwS 2 hts (gBIG (m3 k_ml_A_118 k_st_Ob_checkIndex k_ini_Ob) k_co_Ob_checkIndex) rfl rfl rfl (by decide +kernel) ⟨Nat.le_of_ble_eq_true rfl, Nat.le_of_ble_eq_true rfl⟩) ⟨PR.bl, PR.pre P_nil hK⟩ rfl rfl hl.1 rfl (lv_room (Nat.le_of_ble_eq_true rfl)) d_A_get_5 ⟨Nat.le_of_ble_eq_true rfl, Nat.le_of_ble_eq_true rfl⟩) ?_
  refine lv_pop hx hb d_A_get_8 rfl ?_
  refine lv_aload_n hx hb d_A_get_9 rfl (lv_at hl 0 rfl) ?_
  refine lv_iload_n hx hb d_A_get_10 rfl (lv_at hl 1 rfl) ?_
  refine goRv (va_runV (As := [.int i]) (rest := []) ⟨hx, hb, hml, hown, hts⟩ (c_A_elementData l D cI cL cO a0 d0 sz mo cap rf i y hi hv) (cwV 1 hts (gBIG (m4 k_ml_A_123 k_im_A_elementData k_sel_A_elementData k_ini_A) k_co_A_elementData) rfl rfl rfl (by decide +kernel) ⟨Nat.le_of_ble_eq_true rfl, Nat.le_of_ble_eq_true rfl⟩) ⟨PR.bl, va_recv hK.1 (P_app.mpr ⟨(P_app.mp hP).1, (P_app.mp hP).2⟩) (ci := 4) (q0 := 0) rfl rfl, PR.pre (P_app.mpr ⟨(P_app.mp hP).1, (P_app.mp hP).2⟩) hK⟩ rfl rfl hl.1 rfl (lv_room (Nat.le_of_ble_eq_true rfl)) d_A_get_11 ⟨Nat.le_of_ble_eq_true rfl, Nat.le_of_ble_eq_true rfl⟩) ?_
  rw [hQ]; exact retRv hx hb hr (Or.inl ⟨_, rfl⟩) (Or.inr ⟨_, rfl⟩) hlocks rfl d_A_get_14

abbrev w_As_newLength : List Cond := .code y_As_newLength b_As_newLength 4 (some .int) :: BIG
set_option maxHeartbeats 1000000 in
set_option maxRecDepth 100000 in
theorem c_As_newLength (l : Launch) (D : va_G) (cI cL cO : ClassId) (ol : Int32) (mg : Int32) (pf : Int32) (h1 : 0 < ol + maxF mg pf) (h2 : ¬ 2147483639 < ol + maxF mg pf) : CRi l y_As_newLength w_As_newLength ({ frames := 1, cells := 0, slots := 0, locals := 30 }) D cI cL cO [.int ol, .int mg, .int pf] ([]) (ol + maxF mg pf) := by
  refine ofR (cc := b_As_newLength) (maxL := 4) (ret := (some .int)) (by decide) rfl (Nat.le_of_ble_eq_true rfl) ?_
  intro p e s m below meth c ls Q hQ hx hb hr hlocks hts hown hml hP hK hl
  have hl : lv_has ls 4 [(0, .int ol), (1, .int mg), (2, .int pf)] := hl
  have hown : s.vm.findClass R_As = some m.cls := hown
  have ht : ∀ w ∈ BIG, w.before _ s = true := fun w h => hts w (List.mem_cons_of_mem _ h)
  refine lv_iload_n hx hb d_As_newLength_0 rfl (lv_at hl 0 rfl) ?_
  refine lv_iload_n hx hb d_As_newLength_1 rfl (lv_at hl 1 rfl) ?_
  refine lv_iload_n hx hb d_As_newLength_2 rfl (lv_at hl 2 rfl) ?_
  refine w_max (rest := [.int ol]) hx hb (hml.trans hl.1.symm) hown (ht _ k_ml_As_194) (ht _ k_st_Ma_max) (ht _ k_ini_Ma) (ht _ k_co_Ma_max) (Nat.le_of_ble_eq_true rfl) (Nat.le_of_ble_eq_true rfl) (Nat.le_of_ble_eq_true rfl) (Nat.le_of_ble_eq_true rfl) d_As_newLength_3 ?_
  refine lv_iadd hx hb d_As_newLength_6 ?_
  refine lv_istore_n (lv' := [(3, .int (ol + (maxF mg pf))), (0, .int ol), (1, .int mg), (2, .int pf)]) hx hb d_As_newLength_7 rfl hl (by decide) rfl (fun ls hl => ?_)
  refine lv_iconst (v := 0) hx hb d_As_newLength_8 (by decide) ?_
  refine lv_iload_n hx hb d_As_newLength_9 rfl (lv_at hl 0 rfl) ?_
  refine lv_icmp_ge (tgt := 21) hx hb d_As_newLength_10 (by decide) (fun c_10 => ?_) (fun c_10 => ?_)
  · exact absurd c_10 (Int32.not_le.mpr h1)
  · refine lv_iload_n hx hb d_As_newLength_13 rfl (lv_at hl 0 rfl) ?_
    refine lv_ldc (v := 2147483639) hx hb hown (ht _ k_ct_As_200) d_As_newLength_14 ?_
    refine lv_icmp_gt (tgt := 21) hx hb d_As_newLength_16 (by decide) (fun c_16 => ?_) (fun c_16 => ?_)
    · exact absurd c_16 h2
    · refine lv_iload_n hx hb d_As_newLength_19 rfl (lv_at hl 0 rfl) ?_
      rw [hQ]; exact retRi hx hb hr hlocks rfl d_As_newLength_20

abbrev w_Ar_copyOf2 : List Cond := .code y_Ar_copyOf2 b_Ar_copyOf2 4 (some (.array (.object "java/lang/Object"))) :: BIG
set_option maxHeartbeats 1000000 in
set_option maxRecDepth 100000 in
theorem c_Ar_copyOf2 (l : Launch) (D : va_G) (cI cL cO : ClassId) (N t0 mi : Nat) (d0 : Nat) (cap : Nat) (rf : Nat → Option Nat) (fr : va_W) (n : Int32) (cap2 : Nat) (hc : cap ≤ cap2) (hc2 : cap2 ≤ 40) (hel : elB rf cap fr) (hn : n = nI cap2) : CXr l y_Ar_copyOf2 w_Ar_copyOf2 ({ frames := 1, cells := 1, slots := 40, locals := 60 }) D cI cL cO N t0 mi [.ref d0, .int n, .ref mi] ((wR cO d0 cap rf) ++ fr) (fun r : Nat => (wR cO r cap2 (va_cpy rf (fun _ => none) 0 0 cap) ++ (wR cO d0 cap rf ++ fr))) 1 40 := by
  refine ofXr (cc := b_Ar_copyOf2) (maxL := 4) (ret := (some (.array (.object "java/lang/Object")))) (by decide) rfl (Nat.le_of_ble_eq_true rfl) ?_
  intro p e s m below meth c A ls H Q hQ hx hb hr hlocks hin hts hown hml hP hK hD hS hA hl hE hN hAN
  have hl : lv_has ls 4 [(0, .ref d0), (1, .int n), (2, .ref mi)] := hl
  have hown : s.vm.findClass R_Ar = some m.cls := hown
  have ht : ∀ w ∈ BIG, w.before _ s = true := fun w h => hts w (List.mem_cons_of_mem _ h)
  subst hn
  refine lv_aload_n hx hb d_Ar_copyOf2_0 rfl (lv_at hl 2 rfl) ?_
  refine va_ldcM hx hb hown (ht _ ky_ca) hE.2.2.2.2 d_Ar_copyOf2_1 ?_
  refine lv_acmp_ne (rx := some mi) (ry := some mi) (tgt := 13) hx hb d_Ar_copyOf2_3 (by decide) (fun c_3 => ?_) (fun c_3 => ?_)
  · exact absurd c_3 (fun h => h rfl)
  refine lv_iload_n hx hb d_Ar_copyOf2_6 rfl (lv_at hl 1 rfl) ?_
  refine newQ hx hb hown (ht _ k_cl_Ar_2) hE.2.2.2.1 hK hP hD hS hA (N := cap2) (nI_pos (by omega)) (nI_clamp (by omega)) (by omega) (Nat.le_of_ble_eq_true rfl) (show 0 + cap2 ≤ 40 by omega) d_Ar_copyOf2_7 (fun q7 H hP hD hS => ?_)
  have hP : va_P D vwCl ((wR cO q7 cap2 (fun _ => none)) ++ ((wR cO d0 cap rf) ++ fr)) H := hP
  have hD : va_D A ((wR cO q7 cap2 (fun _ => none)) ++ ((wR cO d0 cap rf) ++ fr)) := hD
  refine lv_goto (tgt := 24) hx hb d_Ar_copyOf2_10 (by decide) ?_
  refine lv_astore_n (lv' := [(3, .ref q7), (0, .ref d0), (1, .int (nI cap2)), (2, .ref mi)]) hx hb d_Ar_copyOf2_24 rfl hl (by decide) rfl (fun ls hl => ?_)
  refine lv_aload_n hx hb d_Ar_copyOf2_25 rfl (lv_at hl 1 rfl) ?_
  refine lv_iconst (v := 0) hx hb d_Ar_copyOf2_26 (by decide) ?_
  refine lv_aload_n hx hb d_Ar_copyOf2_27 rfl (lv_at hl 0 rfl) ?_
  refine lv_iconst (v := 0) hx hb d_Ar_copyOf2_28 (by decide) ?_
  refine lv_aload_n hx hb d_Ar_copyOf2_29 rfl (lv_at hl 1 rfl) ?_
  refine va_alen (v := Int32.ofNat cap) hx hb hK.1 hP 1 2 rfl rfl rfl d_Ar_copyOf2_30 ?_
  refine lv_iload_n hx hb d_Ar_copyOf2_31 rfl (lv_at hl 2 rfl) ?_
  refine w_min (rest := [.int 0, .ref q7, .int 0, .ref d0]) hx hb (hml.trans hl.1.symm) hown (ht _ k_ml_Ar_304) (ht _ k_st_Ma_min) (ht _ k_ini_Ma) (ht _ k_co_Ma_min) (Nat.le_of_ble_eq_true rfl) (Nat.le_of_ble_eq_true rfl) (Nat.le_of_ble_eq_true rfl) (show 0 + cap2 ≤ 40 by omega) d_Ar_copyOf2_32 ?_
  have hmi : minF (Int32.ofNat cap) (nI cap2) = nI cap := by unfold minF; split; (rename_i h; exact absurd h (nI_nlt hc (by omega))); rfl
  have hmn : (minF (Int32.ofNat cap) (nI cap2)).toNatClampNeg = cap := by rw [hmi]; exact nI_clamp (by omega)
  have hmem : ∀ i y : Nat, i < cap → rf i = some y → ∃ fs, (y, (.inr (0, fs) : va_E)) ∈ (((wR cO q7 cap2 (fun _ => none)) ++ ((wR cO d0 cap rf) ++ fr))) := fun i y h1 h2 => by obtain ⟨fs, h3⟩ := hel i y h1 h2; exact ⟨fs, List.mem_append_right _ (List.mem_append_right _ h3)⟩
  refine va_copyM (E0 := R_O) (E1 := R_O) hx hb (hml.trans hl.1.symm) hown (ht _ ky_al) (ht _ ky_an) (ht _ ky_as) (ht _ ky_si) hK.1 hP hD hS 1 0 2 2 rfl rfl rfl rfl (by decide) (by decide) (by rw [hmi]; exact nI_pos (by omega)) (by rw [hmn]; simp) (by rw [hmn]; simp; omega) (fun i hi y hy => any_B hK hP (hmem i y (by rw [hmn] at hi; exact hi) (by simpa using hy))) (Nat.le_of_ble_eq_true rfl) (by decide) d_Ar_copyOf2_35 (fun H locs hP hD hS => ?_)
  rw [hmn] at hP hD
  have hP : va_P D vwCl ((wR cO q7 cap2 (va_cpy rf (fun _ => none) 0 0 cap)) ++ ((wR cO d0 cap rf) ++ fr)) H := hP
  have hD : va_D A ((wR cO q7 cap2 (va_cpy rf (fun _ => none) 0 0 cap)) ++ ((wR cO d0 cap rf) ++ fr)) := hD
  refine lv_aload_n hx hb d_Ar_copyOf2_38 rfl (lv_at hl 0 rfl) ?_
  refine W.widen (k := 1) (n := 40) (Nat.le_of_ble_eq_true rfl) (by omega) ?_
  rw [hQ]; exact retMr (w1 := fun r : Nat => (wR cO r cap2 (va_cpy rf (fun _ => none) 0 0 cap) ++ (wR cO d0 cap rf ++ fr))) hx hb hr (Or.inr ⟨_, rfl⟩) hlocks hP hD hS d_Ar_copyOf2_39

theorem elB_app {rf : Nat → Option Nat} {k : Nat} {fr : va_W} (w : va_W) (h : elB rf k fr) : elB rf k (w ++ fr) := fun j y hj hy => by
  obtain ⟨fs, h1⟩ := h j y hj hy
  exact ⟨fs, List.mem_append_right _ h1⟩
theorem mB_app {fr : va_W} {y : Nat} (w : va_W) (h : ∃ fs, (y, (.inr (0, fs) : va_E)) ∈ fr) : ∃ fs, (y, (.inr (0, fs) : va_E)) ∈ w ++ fr := by
  obtain ⟨fs, h1⟩ := h
  exact ⟨fs, List.mem_append_right _ h1⟩
theorem pos32 {n : Nat} (h : 0 < n) (h2 : n ≤ 40) : (0 : Int32) < Int32.ofNat n := nI_lt (a := 0) (b := n) h (by omega)
theorem not_max {n : Nat} (h2 : n ≤ 40) : ¬ (2147483639 : Int32) < nI n := nI_nlt (a := 2147483639) (b := n) (by omega) (by decide)
theorem P_dr1 {D : va_G} {cl : List vw_C} {x a b : va_W} {H : Heap} (h : va_P D cl (x ++ (a ++ b)) H) : va_P D cl (x ++ b) H := P_app.mpr ⟨(P_app.mp h).1, (P_app.mp (P_app.mp h).2).2⟩
theorem D_dr1 {A : Nat → Prop} {x a b : va_W} (h : va_D A (x ++ (a ++ b))) : va_D A (x ++ b) := by
  rw [D_iff] at h ⊢
  have hs : (x ++ b).Sublist (x ++ (a ++ b)) := (List.sublist_append_right a b).append_left x
  exact ⟨h.1.sublist (hs.map _), fun q hq => h.2 q (hs.subset hq)⟩

abbrev w_Ar_copyOf : List Cond := .code y_Ar_copyOf b_Ar_copyOf 2 (some (.array (.object "java/lang/Object"))) :: BIG
set_option maxHeartbeats 1000000 in
set_option maxRecDepth 100000 in
theorem c_Ar_copyOf (l : Launch) (D : va_G) (cI cL cO : ClassId) (N t0 mi : Nat) (d0 : Nat) (cap : Nat) (rf : Nat → Option Nat) (fr : va_W) (n : Int32) (cap2 : Nat) (hc : cap ≤ cap2) (hc2 : cap2 ≤ 40) (hel : elB rf cap fr) (hn : n = nI cap2) : CXr l y_Ar_copyOf w_Ar_copyOf ({ frames := 2, cells := 1, slots := 40, locals := 83 }) D cI cL cO N t0 mi [.ref d0, .int n] ((wR cO d0 cap rf) ++ fr) (fun r : Nat => (wR cO r cap2 (va_cpy rf (fun _ => none) 0 0 cap) ++ (wR cO d0 cap rf ++ fr))) 1 40 := by
  refine ofXr (cc := b_Ar_copyOf) (maxL := 2) (ret := (some (.array (.object "java/lang/Object")))) (by decide) rfl (Nat.le_of_ble_eq_true rfl) ?_
  intro p e s m below meth c A ls H Q hQ hx hb hr hlocks hin hts hown hml hP hK hD hS hA hl hE hN hAN
  have hl : lv_has ls 2 [(0, .ref d0), (1, .int n)] := hl
  have hown : s.vm.findClass R_Ar = some m.cls := hown
  have ht : ∀ w ∈ BIG, w.before _ s = true := fun w h => hts w (List.mem_cons_of_mem _ h)
  refine lv_aload_n hx hb d_Ar_copyOf_0 rfl (lv_at hl 0 rfl) ?_
  refine lv_iload_n hx hb d_Ar_copyOf_1 rfl (lv_at hl 1 rfl) ?_
  refine lv_aload_n hx hb d_Ar_copyOf_2 rfl (lv_at hl 0 rfl) ?_
  refine va_getC (C := sDD) hx hb (hml.trans hl.1.symm) hown (ht _ ky_gc) (va_Nw.use rfl (hK.2 _ ky_gd)) (ht _ ky_gs) (ht _ ky_gi) (ht _ ky_gn) hE.2.2.2.2 ⟨_, hP 0 _ rfl, rfl, va_nmO (hK.1.2 2 (cO, .object R_O) rfl).2 rfl⟩ (Nat.le_of_ble_eq_true rfl) (Nat.le_of_ble_eq_true rfl) d_Ar_copyOf_3 ?_
  refine goMr (va_runS (As := [.ref d0, .int n, .ref mi]) (rest := []) ⟨hx, hb, hml, hown, hts⟩ (c_Ar_copyOf2 l D cI cL cO N t0 mi d0 cap rf fr n cap2 hc hc2 hel hn H.size) (cwS 3 hts (gBIG (m3 k_ml_Ar_300 k_st_Ar_copyOf2 k_ini_Ar) k_co_Ar_copyOf2) rfl rfl rfl (by decide +kernel) ⟨Nat.le_of_ble_eq_true rfl, Nat.le_of_ble_eq_true rfl⟩) ⟨PX.bl, PX.pre hP hD hK hE hS hAN hN⟩ rfl rfl hl.1 rfl (lv_room (Nat.le_of_ble_eq_true rfl)) d_Ar_copyOf_6 ⟨Nat.le_of_ble_eq_true rfl, Nat.le_of_ble_eq_true rfl⟩) hD hS hA (fun r_6 H locs hP hD hS => ?_)
  have hP : va_P D vwCl ((wR cO r_6 cap2 (va_cpy rf (fun _ => none) 0 0 cap)) ++ ((wR cO d0 cap rf) ++ fr)) H := hP
  have hD : va_D A ((wR cO r_6 cap2 (va_cpy rf (fun _ => none) 0 0 cap)) ++ ((wR cO d0 cap rf) ++ fr)) := hD
  rw [hQ]; exact retMr (w1 := fun r : Nat => (wR cO r cap2 (va_cpy rf (fun _ => none) 0 0 cap) ++ (wR cO d0 cap rf ++ fr))) hx hb hr (Or.inr ⟨_, rfl⟩) hlocks hP hD hS d_Ar_copyOf_9

abbrev w_A_grow2 : List Cond := .code y_A_grow2 b_A_grow2 4 (some (.array (.object "java/lang/Object"))) :: BIG
set_option maxHeartbeats 1000000 in
set_option maxRecDepth 100000 in
theorem c_A_grow2f (l : Launch) (D : va_G) (cI cL cO : ClassId) (N t0 mi : Nat) (a0 : Nat) (sz : Int32) (mo : Int32) (fr : va_W) (mn : Int32) (hm : mn = 1) : CXr l y_A_grow2 w_A_grow2 ({ frames := 1, cells := 1, slots := 10, locals := 30 }) D cI cL cO N t0 mi [.ref a0, .int mn] ((wH a0 t0 sz mo) ++ fr) (fun r : Nat => (wR cO r 10 (fun _ => none) ++ (wH a0 r sz mo ++ fr))) 1 10 := by
  refine ofXr (cc := b_A_grow2) (maxL := 4) (ret := (some (.array (.object "java/lang/Object")))) (by decide) rfl (Nat.le_of_ble_eq_true rfl) ?_
  intro p e s m below meth c A ls H Q hQ hx hb hr hlocks hin hts hown hml hP hK hD hS hA hl hE hN hAN
  have hl : lv_has ls 4 [(0, .ref a0), (1, .int mn)] := hl
  have hown : s.vm.findClass R_A = some m.cls := hown
  have ht : ∀ w ∈ BIG, w.before _ s = true := fun w h => hts w (List.mem_cons_of_mem _ h)
  subst hm
  refine lv_aload_n hx hb d_A_grow2_0 rfl (lv_at hl 0 rfl) ?_
  refine va_get (ci := 4) (v := .ref t0) (C := R_A) (T := T_A) (N := 3) hx hb ht in_A hown hK.1 hP 0 rfl rfl 0 (by decide) (ht _ k_fl_A_9) (fun _ h9 => h9) rfl d_A_grow2_1 ?_
  refine va_tlen (v := 0) hx hb (hE.2.2.1.narrow hAN) hS rfl d_A_grow2_4 ?_
  refine lv_istore_n (lv' := [(2, .int 0), (0, .ref a0), (1, .int 1)]) hx hb d_A_grow2_5 rfl hl (by decide) rfl (fun ls hl => ?_)
  refine lv_iload_n hx hb d_A_grow2_6 rfl (lv_at hl 0 rfl) ?_
  refine lv_if_gt (tgt := 20) hx hb d_A_grow2_7 (by decide) (fun c_7 => ?_) (fun c_7 => ?_)
  · exact absurd c_7 (by decide)
  · refine lv_aload_n hx hb d_A_grow2_10 rfl (lv_at hl 1 rfl) ?_
    refine va_get (ci := 4) (v := .ref t0) (C := R_A) (T := T_A) (N := 3) hx hb ht in_A hown hK.1 hP 0 rfl rfl 0 (by decide) (ht _ k_fl_A_9) (fun _ h9 => h9) rfl d_A_grow2_11 ?_
    refine va_gets hx hb (hE.2.1.narrow hAN) hS hown (ht _ k_fl_A_39) (fun _ h9 => h9) d_A_grow2_14 ?_
    refine lv_acmp_eq (rx := some t0) (ry := some t0) (tgt := 45) hx hb d_A_grow2_17 (by decide) (fun c_17 => ?_) (fun c_17 => ?_)
    rotate_left
    · exact absurd rfl c_17
    refine lv_aload_n hx hb d_A_grow2_45 rfl (lv_at hl 1 rfl) ?_
    refine lv_bipush (v := 10) hx hb d_A_grow2_46 (by decide) ?_
    refine lv_iload_n hx hb d_A_grow2_48 rfl (lv_at hl 2 rfl) ?_
    refine w_max (rest := [.ref a0]) hx hb (hml.trans hl.1.symm) hown (ht _ k_ml_A_79) (ht _ k_st_Ma_max) (ht _ k_ini_Ma) (ht _ k_co_Ma_max) (Nat.le_of_ble_eq_true rfl) (Nat.le_of_ble_eq_true rfl) (Nat.le_of_ble_eq_true rfl) (Nat.le_of_ble_eq_true rfl) d_A_grow2_49 ?_
    refine newQ hx hb hown (ht _ k_cl_A_7) hE.2.2.2.1 hK hP hD hS hA (N := 10) (by decide) (by decide) (by decide) (Nat.le_of_ble_eq_true rfl) (Nat.le_of_ble_eq_true rfl) d_A_grow2_52 (fun q52 H hP hD hS => ?_)
    have hP : va_P D vwCl ((wR cO q52 10 (fun _ => none)) ++ ((wH a0 t0 sz mo) ++ fr)) H := hP
    have hD : va_D A ((wR cO q52 10 (fun _ => none)) ++ ((wH a0 t0 sz mo) ++ fr)) := hD
    refine lv_dup_x1 hx hb d_A_grow2_55 rfl rfl ?_
    refine va_put (ci := 4) (v := .ref q52) (ty := .array (.object "java/lang/Object")) (C := R_A) (T := T_A) (N := 3) hx hb ht in_A t_A t_A_ok n_A hown hK.1 hP hD hS 1 rfl rfl 0 (by decide) (ht _ k_fl_A_9) (fun _ h9 => h9) rfl (by decide +kernel) rfl rfl (Nat.le_of_ble_eq_true rfl) d_A_grow2_56 (fun H locs hP hD hS => ?_)
    have hP : va_P D vwCl ((wR cO q52 10 (fun _ => none)) ++ ((wH a0 q52 sz mo) ++ fr)) H := hP
    have hD : va_D A ((wR cO q52 10 (fun _ => none)) ++ ((wH a0 q52 sz mo) ++ fr)) := hD
    rw [hQ]; exact retMr (w1 := fun r : Nat => (wR cO r 10 (fun _ => none) ++ (wH a0 r sz mo ++ fr))) hx hb hr (Or.inr ⟨_, rfl⟩) hlocks hP hD hS d_A_grow2_59

set_option maxHeartbeats 1000000 in
set_option maxRecDepth 100000 in
theorem c_A_grow2g (l : Launch) (D : va_G) (cI cL cO : ClassId) (N t0 mi : Nat) (a0 : Nat) (d0 : Nat) (sz : Int32) (mo : Int32) (cap : Nat) (rf : Nat → Option Nat) (fr : va_W) (mn : Int32) (cap2 : Nat) (hcp : 0 < cap) (hc : cap ≤ cap2) (hc2 : cap2 ≤ 40) (hel : elB rf cap fr) (hg : Int32.ofNat cap + maxF (mn - Int32.ofNat cap) (Int32.ofNat cap >>> ((1 : Int32) &&& 31)) = nI cap2) : CXr l y_A_grow2 w_A_grow2 ({ frames := 3, cells := 1, slots := 40, locals := 104 }) D cI cL cO N t0 mi [.ref a0, .int mn] ((wH a0 d0 sz mo) ++ ((wR cO d0 cap rf) ++ fr)) (fun r : Nat => (wR cO r cap2 (va_cpy rf (fun _ => none) 0 0 cap) ++ (wR cO d0 cap rf ++ (wH a0 r sz mo ++ fr)))) 1 40 := by
  refine ofXr (cc := b_A_grow2) (maxL := 4) (ret := (some (.array (.object "java/lang/Object")))) (by decide) rfl (Nat.le_of_ble_eq_true rfl) ?_
  intro p e s m below meth c A ls H Q hQ hx hb hr hlocks hin hts hown hml hP hK hD hS hA hl hE hN hAN
  have hl : lv_has ls 4 [(0, .ref a0), (1, .int mn)] := hl
  have hown : s.vm.findClass R_A = some m.cls := hown
  have ht : ∀ w ∈ BIG, w.before _ s = true := fun w h => hts w (List.mem_cons_of_mem _ h)
  refine lv_aload_n hx hb d_A_grow2_0 rfl (lv_at hl 0 rfl) ?_
  refine va_get (ci := 4) (v := .ref d0) (C := R_A) (T := T_A) (N := 3) hx hb ht in_A hown hK.1 hP 0 rfl rfl 0 (by decide) (ht _ k_fl_A_9) (fun _ h9 => h9) rfl d_A_grow2_1 ?_
  refine va_alen (v := Int32.ofNat cap) hx hb hK.1 hP 1 2 rfl rfl rfl d_A_grow2_4 ?_
  refine lv_istore_n (lv' := [(2, .int (Int32.ofNat cap)), (0, .ref a0), (1, .int mn)]) hx hb d_A_grow2_5 rfl hl (by decide) rfl (fun ls hl => ?_)
  refine lv_iload_n hx hb d_A_grow2_6 rfl (lv_at hl 0 rfl) ?_
  refine lv_if_gt (tgt := 20) hx hb d_A_grow2_7 (by decide) (fun c_7 => ?_) (fun c_7 => ?_)
  · refine lv_iload_n hx hb d_A_grow2_20 rfl (lv_at hl 0 rfl) ?_
    refine lv_iload_n hx hb d_A_grow2_21 rfl (lv_at hl 2 rfl) ?_
    refine lv_iload_n hx hb d_A_grow2_22 rfl (lv_at hl 0 rfl) ?_
    refine lv_isub hx hb d_A_grow2_23 ?_
    refine lv_iload_n hx hb d_A_grow2_24 rfl (lv_at hl 0 rfl) ?_
    refine lv_iconst (v := 1) hx hb d_A_grow2_25 (by decide) ?_
    refine lv_ishr hx hb d_A_grow2_26 ?_
    refine goRi (va_runS (As := [.int (Int32.ofNat cap), .int (mn - (Int32.ofNat cap)), .int ((Int32.ofNat cap) >>> ((1 : Int32) &&& 31))]) (rest := []) ⟨hx, hb, hml, hown, hts⟩ (c_As_newLength l D cI cL cO (Int32.ofNat cap) (mn - (Int32.ofNat cap)) ((Int32.ofNat cap) >>> ((1 : Int32) &&& 31)) (by rw [hg]; exact pos32 (by omega) hc2) (by rw [hg]; exact not_max hc2)) (va_cwS 3 hts (gBIG (m3 k_ml_A_73 k_st_As_newLength k_ini_As) k_co_As_newLength) rfl rfl rfl (by decide +kernel) ⟨Nat.le_of_ble_eq_true rfl, Nat.le_of_ble_eq_true rfl⟩) ⟨PR.bl, PR.pre P_nil hK⟩ rfl rfl hl.1 rfl (lv_room (Nat.le_of_ble_eq_true rfl)) d_A_grow2_27 ⟨Nat.le_of_ble_eq_true rfl, Nat.le_of_ble_eq_true rfl⟩) ?_
    refine lv_istore_n (lv' := [(3, .int ((Int32.ofNat cap) + maxF (mn - (Int32.ofNat cap)) ((Int32.ofNat cap) >>> ((1 : Int32) &&& 31)))), (2, .int (Int32.ofNat cap)), (0, .ref a0), (1, .int mn)]) hx hb d_A_grow2_30 rfl hl (by decide) rfl (fun ls hl => ?_)
    refine lv_aload_n hx hb d_A_grow2_31 rfl (lv_at hl 2 rfl) ?_
    refine lv_aload_n hx hb d_A_grow2_32 rfl (lv_at hl 2 rfl) ?_
    refine va_get (ci := 4) (v := .ref d0) (C := R_A) (T := T_A) (N := 3) hx hb ht in_A hown hK.1 hP 0 rfl rfl 0 (by decide) (ht _ k_fl_A_9) (fun _ h9 => h9) rfl d_A_grow2_33 ?_
    refine lv_iload_n hx hb d_A_grow2_36 rfl (lv_at hl 0 rfl) ?_
    have hP := P_sw hP
    have hD := D_sw hD
    refine goMr (va_runS (As := [.ref d0, .int ((Int32.ofNat cap) + maxF (mn - (Int32.ofNat cap)) ((Int32.ofNat cap) >>> ((1 : Int32) &&& 31)))]) (rest := [.ref a0]) ⟨hx, hb, hml, hown, hts⟩ (c_Ar_copyOf l D cI cL cO N t0 mi d0 cap rf ((wH a0 d0 sz mo) ++ fr) ((Int32.ofNat cap) + maxF (mn - (Int32.ofNat cap)) ((Int32.ofNat cap) >>> ((1 : Int32) &&& 31))) cap2 hc hc2 (elB_app _ hel) hg H.size) (va_cwS 2 hts (gBIG (m3 k_ml_A_66 k_st_Ar_copyOf k_ini_Ar) k_co_Ar_copyOf) rfl rfl rfl (by decide +kernel) ⟨Nat.le_of_ble_eq_true rfl, Nat.le_of_ble_eq_true rfl⟩) ⟨PX.bl, PX.pre hP hD hK hE hS hAN hN⟩ rfl rfl hl.1 rfl (lv_room (Nat.le_of_ble_eq_true rfl)) d_A_grow2_37 ⟨Nat.le_of_ble_eq_true rfl, Nat.le_of_ble_eq_true rfl⟩) hD hS hA (fun r_37 H locs hP hD hS => ?_)
    have hP : va_P D vwCl ((wR cO r_37 cap2 (va_cpy rf (fun _ => none) 0 0 cap)) ++ ((wR cO d0 cap rf) ++ ((wH a0 d0 sz mo) ++ fr))) H := hP
    have hD : va_D A ((wR cO r_37 cap2 (va_cpy rf (fun _ => none) 0 0 cap)) ++ ((wR cO d0 cap rf) ++ ((wH a0 d0 sz mo) ++ fr))) := hD
    refine lv_dup_x1 hx hb d_A_grow2_40 rfl rfl ?_
    refine va_put (ci := 4) (v := .ref r_37) (ty := .array (.object "java/lang/Object")) (C := R_A) (T := T_A) (N := 3) hx hb ht in_A t_A t_A_ok n_A hown hK.1 hP hD hS 2 rfl rfl 0 (by decide) (ht _ k_fl_A_9) (fun _ h9 => h9) rfl (by decide +kernel) rfl rfl (Nat.le_of_ble_eq_true rfl) d_A_grow2_41 (fun H locs hP hD hS => ?_)
    have hP : va_P D vwCl ((wR cO r_37 cap2 (va_cpy rf (fun _ => none) 0 0 cap)) ++ ((wR cO d0 cap rf) ++ ((wH a0 r_37 sz mo) ++ fr))) H := hP
    have hD : va_D A ((wR cO r_37 cap2 (va_cpy rf (fun _ => none) 0 0 cap)) ++ ((wR cO d0 cap rf) ++ ((wH a0 r_37 sz mo) ++ fr))) := hD
    rw [hQ]; exact retMr (w1 := fun r : Nat => (wR cO r cap2 (va_cpy rf (fun _ => none) 0 0 cap) ++ (wR cO d0 cap rf ++ (wH a0 r sz mo ++ fr)))) hx hb hr (Or.inr ⟨_, rfl⟩) hlocks hP hD hS d_A_grow2_44
  · exact absurd (pos32 hcp (by omega)) c_7

abbrev w_A_grow : List Cond := .code y_A_grow b_A_grow 1 (some (.array (.object "java/lang/Object"))) :: BIG
set_option maxHeartbeats 1000000 in
set_option maxRecDepth 100000 in
theorem c_A_growf (l : Launch) (D : va_G) (cI cL cO : ClassId) (N t0 mi : Nat) (a0 : Nat) (sz : Int32) (mo : Int32) (fr : va_W) (hm : sz + 1 = 1) : CXr l y_A_grow w_A_grow ({ frames := 2, cells := 1, slots := 10, locals := 53 }) D cI cL cO N t0 mi [.ref a0] ((wH a0 t0 sz mo) ++ fr) (fun r : Nat => (wR cO r 10 (fun _ => none) ++ (wH a0 r sz mo ++ fr))) 1 10 := by
  refine ofXr (cc := b_A_grow) (maxL := 1) (ret := (some (.array (.object "java/lang/Object")))) (by decide) rfl (Nat.le_of_ble_eq_true rfl) ?_
  intro p e s m below meth c A ls H Q hQ hx hb hr hlocks hin hts hown hml hP hK hD hS hA hl hE hN hAN
  have hl : lv_has ls 1 [(0, .ref a0)] := hl
  have hown : s.vm.findClass R_A = some m.cls := hown
  have ht : ∀ w ∈ BIG, w.before _ s = true := fun w h => hts w (List.mem_cons_of_mem _ h)
  refine lv_aload_n hx hb d_A_grow_0 rfl (lv_at hl 0 rfl) ?_
  refine lv_aload_n hx hb d_A_grow_1 rfl (lv_at hl 0 rfl) ?_
  refine va_get (ci := 4) (v := .int sz) (C := R_A) (T := T_A) (N := 3) hx hb ht in_A hown hK.1 hP 0 rfl rfl 1 (by decide) (ht _ k_fl_A_48) (fun _ h9 => h9) rfl d_A_grow_2 ?_
  refine lv_iconst (v := 1) hx hb d_A_grow_5 (by decide) ?_
  refine lv_iadd hx hb d_A_grow_6 ?_
  refine goMr (va_runV (As := [.int (sz + 1)]) (rest := []) ⟨hx, hb, hml, hown, hts⟩ (c_A_grow2f l D cI cL cO N t0 mi a0 sz mo fr (sz + 1) hm H.size) (cwV 1 hts (gBIG (m4 k_ml_A_69 k_im_A_grow2 k_sel_A_grow2 k_ini_A) k_co_A_grow2) rfl rfl rfl (by decide +kernel) ⟨Nat.le_of_ble_eq_true rfl, Nat.le_of_ble_eq_true rfl⟩) ⟨PX.bl, va_recv hK.1 hP (ci := 4) (q0 := 0) rfl rfl, PX.pre hP hD hK hE hS hAN hN⟩ rfl rfl hl.1 rfl (lv_room (Nat.le_of_ble_eq_true rfl)) d_A_grow_7 ⟨Nat.le_of_ble_eq_true rfl, Nat.le_of_ble_eq_true rfl⟩) hD hS hA (fun r_7 H locs hP hD hS => ?_)
  have hP : va_P D vwCl ((wR cO r_7 10 (fun _ => none)) ++ ((wH a0 r_7 sz mo) ++ fr)) H := hP
  have hD : va_D A ((wR cO r_7 10 (fun _ => none)) ++ ((wH a0 r_7 sz mo) ++ fr)) := hD
  rw [hQ]; exact retMr (w1 := fun r : Nat => (wR cO r 10 (fun _ => none) ++ (wH a0 r sz mo ++ fr))) hx hb hr (Or.inr ⟨_, rfl⟩) hlocks hP hD hS d_A_grow_10

set_option maxHeartbeats 1000000 in
set_option maxRecDepth 100000 in
theorem c_A_growg (l : Launch) (D : va_G) (cI cL cO : ClassId) (N t0 mi : Nat) (a0 : Nat) (d0 : Nat) (sz : Int32) (mo : Int32) (cap : Nat) (rf : Nat → Option Nat) (fr : va_W) (cap2 : Nat) (hcp : 0 < cap) (hc : cap ≤ cap2) (hc2 : cap2 ≤ 40) (hel : elB rf cap fr) (hg : Int32.ofNat cap + maxF (sz + 1 - Int32.ofNat cap) (Int32.ofNat cap >>> ((1 : Int32) &&& 31)) = nI cap2) : CXr l y_A_grow w_A_grow ({ frames := 4, cells := 1, slots := 40, locals := 127 }) D cI cL cO N t0 mi [.ref a0] ((wH a0 d0 sz mo) ++ ((wR cO d0 cap rf) ++ fr)) (fun r : Nat => (wR cO r cap2 (va_cpy rf (fun _ => none) 0 0 cap) ++ (wR cO d0 cap rf ++ (wH a0 r sz mo ++ fr)))) 1 40 := by
  refine ofXr (cc := b_A_grow) (maxL := 1) (ret := (some (.array (.object "java/lang/Object")))) (by decide) rfl (Nat.le_of_ble_eq_true rfl) ?_
  intro p e s m below meth c A ls H Q hQ hx hb hr hlocks hin hts hown hml hP hK hD hS hA hl hE hN hAN
  have hl : lv_has ls 1 [(0, .ref a0)] := hl
  have hown : s.vm.findClass R_A = some m.cls := hown
  have ht : ∀ w ∈ BIG, w.before _ s = true := fun w h => hts w (List.mem_cons_of_mem _ h)
  refine lv_aload_n hx hb d_A_grow_0 rfl (lv_at hl 0 rfl) ?_
  refine lv_aload_n hx hb d_A_grow_1 rfl (lv_at hl 0 rfl) ?_
  refine va_get (ci := 4) (v := .int sz) (C := R_A) (T := T_A) (N := 3) hx hb ht in_A hown hK.1 hP 0 rfl rfl 1 (by decide) (ht _ k_fl_A_48) (fun _ h9 => h9) rfl d_A_grow_2 ?_
  refine lv_iconst (v := 1) hx hb d_A_grow_5 (by decide) ?_
  refine lv_iadd hx hb d_A_grow_6 ?_
  refine goMr (va_runV (As := [.int (sz + 1)]) (rest := []) ⟨hx, hb, hml, hown, hts⟩ (c_A_grow2g l D cI cL cO N t0 mi a0 d0 sz mo cap rf fr (sz + 1) cap2 hcp hc hc2 hel hg H.size) (cwV 1 hts (gBIG (m4 k_ml_A_69 k_im_A_grow2 k_sel_A_grow2 k_ini_A) k_co_A_grow2) rfl rfl rfl (by decide +kernel) ⟨Nat.le_of_ble_eq_true rfl, Nat.le_of_ble_eq_true rfl⟩) ⟨PX.bl, va_recv hK.1 hP (ci := 4) (q0 := 0) rfl rfl, PX.pre hP hD hK hE hS hAN hN⟩ rfl rfl hl.1 rfl (lv_room (Nat.le_of_ble_eq_true rfl)) d_A_grow_7 ⟨Nat.le_of_ble_eq_true rfl, Nat.le_of_ble_eq_true rfl⟩) hD hS hA (fun r_7 H locs hP hD hS => ?_)
  have hP : va_P D vwCl ((wR cO r_7 cap2 (va_cpy rf (fun _ => none) 0 0 cap)) ++ ((wR cO d0 cap rf) ++ ((wH a0 r_7 sz mo) ++ fr))) H := hP
  have hD : va_D A ((wR cO r_7 cap2 (va_cpy rf (fun _ => none) 0 0 cap)) ++ ((wR cO d0 cap rf) ++ ((wH a0 r_7 sz mo) ++ fr))) := hD
  rw [hQ]; exact retMr (w1 := fun r : Nat => (wR cO r cap2 (va_cpy rf (fun _ => none) 0 0 cap) ++ (wR cO d0 cap rf ++ (wH a0 r sz mo ++ fr)))) hx hb hr (Or.inr ⟨_, rfl⟩) hlocks hP hD hS d_A_grow_10

abbrev w_A_add2 : List Cond := .code y_A_add2 b_A_add2 4 none :: BIG
set_option maxHeartbeats 1000000 in
set_option maxRecDepth 100000 in
theorem c_A_add2 (l : Launch) (D : va_G) (cI cL cO : ClassId) (N t0 mi : Nat) (a0 : Nat) (d0 : Nat) (sz : Int32) (mo : Int32) (cap : Nat) (rf : Nat → Option Nat) (fr : va_W) (el : Nat) (k : Int32) (hne : ¬ k = Int32.ofNat cap) (hi : vp_in k cap) (he : ∃ fs, (el, (.inr (0, fs) : va_E)) ∈ fr) : CXv l y_A_add2 w_A_add2 ({ frames := 0, cells := 0, slots := 0, locals := 0 }) D cI cL cO N t0 mi [.ref a0, .ref el, .ref d0, .int k] ((wH a0 d0 sz mo) ++ ((wR cO d0 cap rf) ++ fr)) (fun u : Unit => True) (fun u : Unit => (wH a0 d0 (k + 1) mo ++ (wR cO d0 cap (va_up rf k.toNatClampNeg (some el)) ++ fr))) 0 0 := by
  refine ofXv (cc := b_A_add2) (maxL := 4) (ret := none) (by decide) rfl (Nat.le_of_ble_eq_true rfl) ?_
  intro p e s m below meth c A ls H Q hQ hx hb hr hlocks hin hts hown hml hP hK hD hS hA hl hE hN hAN
  have hl : lv_has ls 4 [(0, .ref a0), (1, .ref el), (2, .ref d0), (3, .int k)] := hl
  have hown : s.vm.findClass R_A = some m.cls := hown
  have ht : ∀ w ∈ BIG, w.before _ s = true := fun w h => hts w (List.mem_cons_of_mem _ h)
  refine lv_iload_n hx hb d_A_add2_0 rfl (lv_at hl 3 rfl) ?_
  refine lv_aload_n hx hb d_A_add2_1 rfl (lv_at hl 2 rfl) ?_
  refine va_alen (v := Int32.ofNat cap) hx hb hK.1 hP 1 2 rfl rfl rfl d_A_add2_2 ?_
  refine lv_icmp_ne (tgt := 11) hx hb d_A_add2_3 (by decide) (fun c_3 => ?_) (fun c_3 => ?_)
  · refine lv_aload_n hx hb d_A_add2_11 rfl (lv_at hl 2 rfl) ?_
    refine lv_iload_n hx hb d_A_add2_12 rfl (lv_at hl 3 rfl) ?_
    refine lv_aload_n hx hb d_A_add2_13 rfl (lv_at hl 1 rfl) ?_
    refine va_astqM (E := R_O) hx hb hK.1 hP hD hS 1 2 rfl rfl (any_B hK hP (mB_app _ (mB_app _ (he)))) hi d_A_add2_14 (fun H locs hP hD hS => ?_)
    have hP : va_P D vwCl ((wH a0 d0 sz mo) ++ ((wR cO d0 cap (va_up rf k.toNatClampNeg (some el))) ++ fr)) H := hP
    have hD : va_D A ((wH a0 d0 sz mo) ++ ((wR cO d0 cap (va_up rf k.toNatClampNeg (some el))) ++ fr)) := hD
    refine lv_aload_n hx hb d_A_add2_15 rfl (lv_at hl 0 rfl) ?_
    refine lv_iload_n hx hb d_A_add2_16 rfl (lv_at hl 3 rfl) ?_
    refine lv_iconst (v := 1) hx hb d_A_add2_17 (by decide) ?_
    refine lv_iadd hx hb d_A_add2_18 ?_
    refine va_put (ci := 4) (v := .int (k + 1)) (ty := .int) (C := R_A) (T := T_A) (N := 3) hx hb ht in_A t_A t_A_ok n_A hown hK.1 hP hD hS 0 rfl rfl 1 (by decide) (ht _ k_fl_A_48) (fun _ h9 => h9) rfl (by decide +kernel) rfl rfl (Nat.le_of_ble_eq_true rfl) d_A_add2_19 (fun H locs hP hD hS => ?_)
    have hP : va_P D vwCl ((wH a0 d0 (k + 1) mo) ++ ((wR cO d0 cap (va_up rf k.toNatClampNeg (some el))) ++ fr)) H := hP
    have hD : va_D A ((wH a0 d0 (k + 1) mo) ++ ((wR cO d0 cap (va_up rf k.toNatClampNeg (some el))) ++ fr)) := hD
    rw [hQ]; exact retMv (w1 := fun u : Unit => (wH a0 d0 (k + 1) mo ++ (wR cO d0 cap (va_up rf k.toNatClampNeg (some el)) ++ fr))) () hx hb hr hlocks hP hD hS trivial d_A_add2_22
  · exact absurd c_3 hne

set_option maxHeartbeats 1000000 in
set_option maxRecDepth 100000 in
theorem c_A_add2f (l : Launch) (D : va_G) (cI cL cO : ClassId) (N t0 mi : Nat) (a0 : Nat) (mo : Int32) (fr : va_W) (el : Nat) (k : Int32) (hk : k = 0) (he : ∃ fs, (el, (.inr (0, fs) : va_E)) ∈ fr) : CXv l y_A_add2 w_A_add2 ({ frames := 3, cells := 1, slots := 10, locals := 73 }) D cI cL cO N t0 mi [.ref a0, .ref el, .ref t0, .int k] ((wH a0 t0 0 mo) ++ fr) (fun u : Nat => True) (fun u : Nat => (wH a0 u (0 + 1) mo ++ (wR cO u 10 (va_up (fun _ => none) (0 : Int32).toNatClampNeg (some el)) ++ fr))) 1 10 := by
  refine ofXv (cc := b_A_add2) (maxL := 4) (ret := none) (by decide) rfl (Nat.le_of_ble_eq_true rfl) ?_
  intro p e s m below meth c A ls H Q hQ hx hb hr hlocks hin hts hown hml hP hK hD hS hA hl hE hN hAN
  have hl : lv_has ls 4 [(0, .ref a0), (1, .ref el), (2, .ref t0), (3, .int k)] := hl
  have hown : s.vm.findClass R_A = some m.cls := hown
  have ht : ∀ w ∈ BIG, w.before _ s = true := fun w h => hts w (List.mem_cons_of_mem _ h)
  subst hk
  refine lv_iload_n hx hb d_A_add2_0 rfl (lv_at hl 3 rfl) ?_
  refine lv_aload_n hx hb d_A_add2_1 rfl (lv_at hl 2 rfl) ?_
  refine va_tlen (v := 0) hx hb (hE.2.2.1.narrow hAN) hS rfl d_A_add2_2 ?_
  refine lv_icmp_ne (tgt := 11) hx hb d_A_add2_3 (by decide) (fun c_3 => ?_) (fun c_3 => ?_)
  · exact absurd c_3 (by decide)
  · refine lv_aload_n hx hb d_A_add2_6 rfl (lv_at hl 0 rfl) ?_
    refine goMr (va_runV (As := []) (rest := []) ⟨hx, hb, hml, hown, hts⟩ (c_A_growf l D cI cL cO N t0 mi a0 0 mo fr (by decide) H.size) (cwV 0 hts (gBIG (m4 k_ml_A_129 k_im_A_grow k_sel_A_grow k_ini_A) k_co_A_grow) rfl rfl rfl (by decide +kernel) ⟨Nat.le_of_ble_eq_true rfl, Nat.le_of_ble_eq_true rfl⟩) ⟨PX.bl, va_recv hK.1 hP (ci := 4) (q0 := 0) rfl rfl, PX.pre hP hD hK hE hS hAN hN⟩ rfl rfl hl.1 rfl (lv_room (Nat.le_of_ble_eq_true rfl)) d_A_add2_7 ⟨Nat.le_of_ble_eq_true rfl, Nat.le_of_ble_eq_true rfl⟩) hD hS hA (fun r_7 H locs hP hD hS => ?_)
    have hP : va_P D vwCl ((wR cO r_7 10 (fun _ => none)) ++ ((wH a0 r_7 0 mo) ++ fr)) H := hP
    have hD : va_D A ((wR cO r_7 10 (fun _ => none)) ++ ((wH a0 r_7 0 mo) ++ fr)) := hD
    refine lv_astore_n (lv' := [(2, .ref r_7), (0, .ref a0), (1, .ref el), (3, .int 0)]) hx hb d_A_add2_10 rfl hl (by decide) rfl (fun ls hl => ?_)
    refine lv_aload_n hx hb d_A_add2_11 rfl (lv_at hl 0 rfl) ?_
    refine lv_iload_n hx hb d_A_add2_12 rfl (lv_at hl 3 rfl) ?_
    refine lv_aload_n hx hb d_A_add2_13 rfl (lv_at hl 2 rfl) ?_
    refine va_astqM (E := R_O) hx hb hK.1 hP hD hS 0 2 rfl rfl (any_B hK hP (mB_app _ (mB_app _ (he)))) (by unfold vp_in; decide) d_A_add2_14 (fun H locs hP hD hS => ?_)
    have hP : va_P D vwCl ((wR cO r_7 10 (va_up (fun _ => none) (0 : Int32).toNatClampNeg (some el))) ++ ((wH a0 r_7 0 mo) ++ fr)) H := hP
    have hD : va_D A ((wR cO r_7 10 (va_up (fun _ => none) (0 : Int32).toNatClampNeg (some el))) ++ ((wH a0 r_7 0 mo) ++ fr)) := hD
    refine lv_aload_n hx hb d_A_add2_15 rfl (lv_at hl 1 rfl) ?_
    refine lv_iload_n hx hb d_A_add2_16 rfl (lv_at hl 3 rfl) ?_
    refine lv_iconst (v := 1) hx hb d_A_add2_17 (by decide) ?_
    refine lv_iadd hx hb d_A_add2_18 ?_
    refine va_put (ci := 4) (v := .int (0 + 1)) (ty := .int) (C := R_A) (T := T_A) (N := 3) hx hb ht in_A t_A t_A_ok n_A hown hK.1 hP hD hS 1 rfl rfl 1 (by decide) (ht _ k_fl_A_48) (fun _ h9 => h9) rfl (by decide +kernel) rfl rfl (Nat.le_of_ble_eq_true rfl) d_A_add2_19 (fun H locs hP hD hS => ?_)
    have hP : va_P D vwCl ((wR cO r_7 10 (va_up (fun _ => none) (0 : Int32).toNatClampNeg (some el))) ++ ((wH a0 r_7 (0 + 1) mo) ++ fr)) H := hP
    have hD : va_D A ((wR cO r_7 10 (va_up (fun _ => none) (0 : Int32).toNatClampNeg (some el))) ++ ((wH a0 r_7 (0 + 1) mo) ++ fr)) := hD
    have hP := P_sw hP
    have hD := D_sw hD
    have hP : va_P D vwCl ((wH a0 r_7 (0 + 1) mo) ++ ((wR cO r_7 10 (va_up (fun _ => none) (0 : Int32).toNatClampNeg (some el))) ++ fr)) H := hP
    have hD : va_D A ((wH a0 r_7 (0 + 1) mo) ++ ((wR cO r_7 10 (va_up (fun _ => none) (0 : Int32).toNatClampNeg (some el))) ++ fr)) := hD
    rw [hQ]; exact retMv (w1 := fun u : Nat => (wH a0 u (0 + 1) mo ++ (wR cO u 10 (va_up (fun _ => none) (0 : Int32).toNatClampNeg (some el)) ++ fr))) r_7 hx hb hr hlocks hP hD hS trivial d_A_add2_22

set_option maxHeartbeats 1000000 in
set_option maxRecDepth 100000 in
theorem c_A_add2g (l : Launch) (D : va_G) (cI cL cO : ClassId) (N t0 mi : Nat) (a0 : Nat) (d0 : Nat) (k : Int32) (mo : Int32) (cap : Nat) (rf : Nat → Option Nat) (fr : va_W) (el : Nat) (k : Int32) (cap2 : Nat) (hcp : 0 < cap) (hc : cap ≤ cap2) (hc2 : cap2 ≤ 40) (hel : elB rf cap fr) (hg : Int32.ofNat cap + maxF (k + 1 - Int32.ofNat cap) (Int32.ofNat cap >>> ((1 : Int32) &&& 31)) = nI cap2) (hk : k = Int32.ofNat cap) (hi : vp_in k cap2) (he : ∃ fs, (el, (.inr (0, fs) : va_E)) ∈ fr) : CXv l y_A_add2 w_A_add2 ({ frames := 5, cells := 1, slots := 40, locals := 147 }) D cI cL cO N t0 mi [.ref a0, .ref el, .ref d0, .int k] ((wH a0 d0 k mo) ++ ((wR cO d0 cap rf) ++ fr)) (fun u : Nat => True) (fun u : Nat => (wH a0 u (k + 1) mo ++ (wR cO u cap2 (va_up (va_cpy rf (fun _ => none) 0 0 cap) k.toNatClampNeg (some el)) ++ fr))) 1 40 := by
  refine ofXv (cc := b_A_add2) (maxL := 4) (ret := none) (by decide) rfl (Nat.le_of_ble_eq_true rfl) ?_
  intro p e s m below meth c A ls H Q hQ hx hb hr hlocks hin hts hown hml hP hK hD hS hA hl hE hN hAN
  have hl : lv_has ls 4 [(0, .ref a0), (1, .ref el), (2, .ref d0), (3, .int k)] := hl
  have hown : s.vm.findClass R_A = some m.cls := hown
  have ht : ∀ w ∈ BIG, w.before _ s = true := fun w h => hts w (List.mem_cons_of_mem _ h)
  refine lv_iload_n hx hb d_A_add2_0 rfl (lv_at hl 3 rfl) ?_
  refine lv_aload_n hx hb d_A_add2_1 rfl (lv_at hl 2 rfl) ?_
  refine va_alen (v := Int32.ofNat cap) hx hb hK.1 hP 1 2 rfl rfl rfl d_A_add2_2 ?_
  refine lv_icmp_ne (tgt := 11) hx hb d_A_add2_3 (by decide) (fun c_3 => ?_) (fun c_3 => ?_)
  · exact absurd hk c_3
  · refine lv_aload_n hx hb d_A_add2_6 rfl (lv_at hl 0 rfl) ?_
    refine goMr (va_runV (As := []) (rest := []) ⟨hx, hb, hml, hown, hts⟩ (c_A_growg l D cI cL cO N t0 mi a0 d0 k mo cap rf fr cap2 hcp hc hc2 hel hg H.size) (cwV 0 hts (gBIG (m4 k_ml_A_129 k_im_A_grow k_sel_A_grow k_ini_A) k_co_A_grow) rfl rfl rfl (by decide +kernel) ⟨Nat.le_of_ble_eq_true rfl, Nat.le_of_ble_eq_true rfl⟩) ⟨PX.bl, va_recv hK.1 hP (ci := 4) (q0 := 0) rfl rfl, PX.pre hP hD hK hE hS hAN hN⟩ rfl rfl hl.1 rfl (lv_room (Nat.le_of_ble_eq_true rfl)) d_A_add2_7 ⟨Nat.le_of_ble_eq_true rfl, Nat.le_of_ble_eq_true rfl⟩) hD hS hA (fun r_7 H locs hP hD hS => ?_)
    have hP : va_P D vwCl ((wR cO r_7 cap2 (va_cpy rf (fun _ => none) 0 0 cap)) ++ ((wR cO d0 cap rf) ++ ((wH a0 r_7 k mo) ++ fr))) H := hP
    have hD : va_D A ((wR cO r_7 cap2 (va_cpy rf (fun _ => none) 0 0 cap)) ++ ((wR cO d0 cap rf) ++ ((wH a0 r_7 k mo) ++ fr))) := hD
    refine lv_astore_n (lv' := [(2, .ref r_7), (0, .ref a0), (1, .ref el), (3, .int k)]) hx hb d_A_add2_10 rfl hl (by decide) rfl (fun ls hl => ?_)
    refine lv_aload_n hx hb d_A_add2_11 rfl (lv_at hl 0 rfl) ?_
    refine lv_iload_n hx hb d_A_add2_12 rfl (lv_at hl 3 rfl) ?_
    refine lv_aload_n hx hb d_A_add2_13 rfl (lv_at hl 2 rfl) ?_
    refine va_astqM (E := R_O) hx hb hK.1 hP hD hS 0 2 rfl rfl (any_B hK hP (mB_app _ (mB_app _ (mB_app _ (he))))) hi d_A_add2_14 (fun H locs hP hD hS => ?_)
    have hP : va_P D vwCl ((wR cO r_7 cap2 (va_up (va_cpy rf (fun _ => none) 0 0 cap) k.toNatClampNeg (some el))) ++ ((wR cO d0 cap rf) ++ ((wH a0 r_7 k mo) ++ fr))) H := hP
    have hD : va_D A ((wR cO r_7 cap2 (va_up (va_cpy rf (fun _ => none) 0 0 cap) k.toNatClampNeg (some el))) ++ ((wR cO d0 cap rf) ++ ((wH a0 r_7 k mo) ++ fr))) := hD
    refine lv_aload_n hx hb d_A_add2_15 rfl (lv_at hl 1 rfl) ?_
    refine lv_iload_n hx hb d_A_add2_16 rfl (lv_at hl 3 rfl) ?_
    refine lv_iconst (v := 1) hx hb d_A_add2_17 (by decide) ?_
    refine lv_iadd hx hb d_A_add2_18 ?_
    refine va_put (ci := 4) (v := .int (k + 1)) (ty := .int) (C := R_A) (T := T_A) (N := 3) hx hb ht in_A t_A t_A_ok n_A hown hK.1 hP hD hS 2 rfl rfl 1 (by decide) (ht _ k_fl_A_48) (fun _ h9 => h9) rfl (by decide +kernel) rfl rfl (Nat.le_of_ble_eq_true rfl) d_A_add2_19 (fun H locs hP hD hS => ?_)
    have hP : va_P D vwCl ((wR cO r_7 cap2 (va_up (va_cpy rf (fun _ => none) 0 0 cap) k.toNatClampNeg (some el))) ++ ((wR cO d0 cap rf) ++ ((wH a0 r_7 (k + 1) mo) ++ fr))) H := hP
    have hD : va_D A ((wR cO r_7 cap2 (va_up (va_cpy rf (fun _ => none) 0 0 cap) k.toNatClampNeg (some el))) ++ ((wR cO d0 cap rf) ++ ((wH a0 r_7 (k + 1) mo) ++ fr))) := hD
    have hP := P_sw (P_dr1 hP)
    have hD := D_sw (D_dr1 hD)
    have hP : va_P D vwCl ((wH a0 r_7 (k + 1) mo) ++ ((wR cO r_7 cap2 (va_up (va_cpy rf (fun _ => none) 0 0 cap) k.toNatClampNeg (some el))) ++ fr)) H := hP
    have hD : va_D A ((wH a0 r_7 (k + 1) mo) ++ ((wR cO r_7 cap2 (va_up (va_cpy rf (fun _ => none) 0 0 cap) k.toNatClampNeg (some el))) ++ fr)) := hD
    rw [hQ]; exact retMv (w1 := fun u : Nat => (wH a0 u (k + 1) mo ++ (wR cO u cap2 (va_up (va_cpy rf (fun _ => none) 0 0 cap) k.toNatClampNeg (some el)) ++ fr))) r_7 hx hb hr hlocks hP hD hS trivial d_A_add2_22

abbrev w_A_add : List Cond := .code y_A_add b_A_add 2 (some .boolean) :: BIG
set_option maxHeartbeats 1000000 in
set_option maxRecDepth 100000 in
theorem c_A_add (l : Launch) (D : va_G) (cI cL cO : ClassId) (N t0 mi : Nat) (a0 : Nat) (d0 : Nat) (sz : Int32) (mo : Int32) (cap : Nat) (rf : Nat → Option Nat) (fr : va_W) (el : Nat) (hne : ¬ sz = Int32.ofNat cap) (hi : vp_in sz cap) (he : ∃ fs, (el, (.inr (0, fs) : va_E)) ∈ fr) : CXi l y_A_add w_A_add ({ frames := 1, cells := 0, slots := 0, locals := 23 }) D cI cL cO N t0 mi [.ref a0, .ref el] ((wH a0 d0 sz mo) ++ ((wR cO d0 cap rf) ++ fr)) (fun (r : Int32) (u : Unit) => r = 1) (fun u : Unit => (wH a0 d0 (sz + 1) (mo + 1) ++ (wR cO d0 cap (va_up rf sz.toNatClampNeg (some el)) ++ fr))) 0 0 := by
  refine ofXi (cc := b_A_add) (maxL := 2) (ret := (some .boolean)) (by decide) rfl (Nat.le_of_ble_eq_true rfl) ?_
  intro p e s m below meth c A ls H Q hQ hx hb hr hlocks hin hts hown hml hP hK hD hS hA hl hE hN hAN
  have hl : lv_has ls 2 [(0, .ref a0), (1, .ref el)] := hl
  have hown : s.vm.findClass R_A = some m.cls := hown
  have ht : ∀ w ∈ BIG, w.before _ s = true := fun w h => hts w (List.mem_cons_of_mem _ h)
  refine lv_aload_n hx hb d_A_add_0 rfl (lv_at hl 0 rfl) ?_
  refine lv_dup hx hb d_A_add_1 rfl ?_
  refine va_get (ci := 4) (v := .int mo) (C := R_A) (T := T_A) (N := 3) hx hb ht in_A hown hK.1 hP 0 rfl rfl 2 (by decide) (ht _ k_fl_A_63) (u_same (ht _ ky_sf)) rfl d_A_add_2 ?_
  refine lv_iconst (v := 1) hx hb d_A_add_5 (by decide) ?_
  refine lv_iadd hx hb d_A_add_6 ?_
  refine va_put (ci := 4) (v := .int (mo + 1)) (ty := .int) (C := R_A) (T := T_A) (N := 3) hx hb ht in_A t_A t_A_ok n_A hown hK.1 hP hD hS 0 rfl rfl 2 (by decide) (ht _ k_fl_A_63) (u_same (ht _ ky_sf)) rfl (by decide +kernel) rfl rfl (Nat.le_of_ble_eq_true rfl) d_A_add_7 (fun H locs hP hD hS => ?_)
  have hP : va_P D vwCl ((wH a0 d0 sz (mo + 1)) ++ ((wR cO d0 cap rf) ++ fr)) H := hP
  have hD : va_D A ((wH a0 d0 sz (mo + 1)) ++ ((wR cO d0 cap rf) ++ fr)) := hD
  refine lv_aload_n hx hb d_A_add_10 rfl (lv_at hl 0 rfl) ?_
  refine lv_aload_n hx hb d_A_add_11 rfl (lv_at hl 1 rfl) ?_
  refine lv_aload_n hx hb d_A_add_12 rfl (lv_at hl 0 rfl) ?_
  refine va_get (ci := 4) (v := .ref d0) (C := R_A) (T := T_A) (N := 3) hx hb ht in_A hown hK.1 hP 0 rfl rfl 0 (by decide) (ht _ k_fl_A_9) (fun _ h9 => h9) rfl d_A_add_13 ?_
  refine lv_aload_n hx hb d_A_add_16 rfl (lv_at hl 0 rfl) ?_
  refine va_get (ci := 4) (v := .int sz) (C := R_A) (T := T_A) (N := 3) hx hb ht in_A hown hK.1 hP 0 rfl rfl 1 (by decide) (ht _ k_fl_A_48) (fun _ h9 => h9) rfl d_A_add_17 ?_
  refine goMv (va_runV (As := [.ref el, .ref d0, .int sz]) (rest := []) ⟨hx, hb, hml, hown, hts⟩ (c_A_add2 l D cI cL cO N t0 mi a0 d0 sz (mo + 1) cap rf fr el sz hne hi he H.size) (cwV 3 hts (gBIG (m4 k_ml_A_131 k_im_A_add2 k_sel_A_add2 k_ini_A) k_co_A_add2) rfl rfl rfl (by decide +kernel) ⟨Nat.le_of_ble_eq_true rfl, Nat.le_of_ble_eq_true rfl⟩) ⟨PX.bl, va_recv hK.1 hP (ci := 4) (q0 := 0) rfl rfl, PX.pre hP hD hK hE hS hAN hN⟩ rfl rfl hl.1 rfl (lv_room (Nat.le_of_ble_eq_true rfl)) d_A_add_20 ⟨Nat.le_of_ble_eq_true rfl, Nat.le_of_ble_eq_true rfl⟩) hD hS hA (fun u H locs hw hP hD hS => ?_)
  have hP : va_P D vwCl ((wH a0 d0 (sz + 1) (mo + 1)) ++ ((wR cO d0 cap (va_up rf sz.toNatClampNeg (some el))) ++ fr)) H := hP
  have hD : va_D A ((wH a0 d0 (sz + 1) (mo + 1)) ++ ((wR cO d0 cap (va_up rf sz.toNatClampNeg (some el))) ++ fr)) := hD
  refine lv_iconst (v := 1) hx hb d_A_add_23 (by decide) ?_
  rw [hQ]; exact retMz (w1 := fun u : Unit => (wH a0 d0 (sz + 1) (mo + 1) ++ (wR cO d0 cap (va_up rf sz.toNatClampNeg (some el)) ++ fr))) () hx hb hr hlocks rfl hP hD hS rfl d_A_add_24

set_option maxHeartbeats 1000000 in
set_option maxRecDepth 100000 in
theorem c_A_addf (l : Launch) (D : va_G) (cI cL cO : ClassId) (N t0 mi : Nat) (a0 : Nat) (mo : Int32) (fr : va_W) (el : Nat) (he : ∃ fs, (el, (.inr (0, fs) : va_E)) ∈ fr) : CXi l y_A_add w_A_add ({ frames := 4, cells := 1, slots := 10, locals := 96 }) D cI cL cO N t0 mi [.ref a0, .ref el] ((wH a0 t0 0 mo) ++ fr) (fun (r : Int32) (u : Nat) => r = 1) (fun u : Nat => (wH a0 u (0 + 1) (mo + 1) ++ (wR cO u 10 (va_up (fun _ => none) (0 : Int32).toNatClampNeg (some el)) ++ fr))) 1 10 := by
  refine ofXi (cc := b_A_add) (maxL := 2) (ret := (some .boolean)) (by decide) rfl (Nat.le_of_ble_eq_true rfl) ?_
  intro p e s m below meth c A ls H Q hQ hx hb hr hlocks hin hts hown hml hP hK hD hS hA hl hE hN hAN
  have hl : lv_has ls 2 [(0, .ref a0), (1, .ref el)] := hl
  have hown : s.vm.findClass R_A = some m.cls := hown
  have ht : ∀ w ∈ BIG, w.before _ s = true := fun w h => hts w (List.mem_cons_of_mem _ h)
  refine lv_aload_n hx hb d_A_add_0 rfl (lv_at hl 0 rfl) ?_
  refine lv_dup hx hb d_A_add_1 rfl ?_
  refine va_get (ci := 4) (v := .int mo) (C := R_A) (T := T_A) (N := 3) hx hb ht in_A hown hK.1 hP 0 rfl rfl 2 (by decide) (ht _ k_fl_A_63) (u_same (ht _ ky_sf)) rfl d_A_add_2 ?_
  refine lv_iconst (v := 1) hx hb d_A_add_5 (by decide) ?_
  refine lv_iadd hx hb d_A_add_6 ?_
  refine va_put (ci := 4) (v := .int (mo + 1)) (ty := .int) (C := R_A) (T := T_A) (N := 3) hx hb ht in_A t_A t_A_ok n_A hown hK.1 hP hD hS 0 rfl rfl 2 (by decide) (ht _ k_fl_A_63) (u_same (ht _ ky_sf)) rfl (by decide +kernel) rfl rfl (Nat.le_of_ble_eq_true rfl) d_A_add_7 (fun H locs hP hD hS => ?_)
  have hP : va_P D vwCl ((wH a0 t0 0 (mo + 1)) ++ fr) H := hP
  have hD : va_D A ((wH a0 t0 0 (mo + 1)) ++ fr) := hD
  refine lv_aload_n hx hb d_A_add_10 rfl (lv_at hl 0 rfl) ?_
  refine lv_aload_n hx hb d_A_add_11 rfl (lv_at hl 1 rfl) ?_
  refine lv_aload_n hx hb d_A_add_12 rfl (lv_at hl 0 rfl) ?_
  refine va_get (ci := 4) (v := .ref t0) (C := R_A) (T := T_A) (N := 3) hx hb ht in_A hown hK.1 hP 0 rfl rfl 0 (by decide) (ht _ k_fl_A_9) (fun _ h9 => h9) rfl d_A_add_13 ?_
  refine lv_aload_n hx hb d_A_add_16 rfl (lv_at hl 0 rfl) ?_
  refine va_get (ci := 4) (v := .int 0) (C := R_A) (T := T_A) (N := 3) hx hb ht in_A hown hK.1 hP 0 rfl rfl 1 (by decide) (ht _ k_fl_A_48) (fun _ h9 => h9) rfl d_A_add_17 ?_
  refine goMv (va_runV (As := [.ref el, .ref t0, .int 0]) (rest := []) ⟨hx, hb, hml, hown, hts⟩ (c_A_add2f l D cI cL cO N t0 mi a0 (mo + 1) fr el 0 rfl he H.size) (cwV 3 hts (gBIG (m4 k_ml_A_131 k_im_A_add2 k_sel_A_add2 k_ini_A) k_co_A_add2) rfl rfl rfl (by decide +kernel) ⟨Nat.le_of_ble_eq_true rfl, Nat.le_of_ble_eq_true rfl⟩) ⟨PX.bl, va_recv hK.1 hP (ci := 4) (q0 := 0) rfl rfl, PX.pre hP hD hK hE hS hAN hN⟩ rfl rfl hl.1 rfl (lv_room (Nat.le_of_ble_eq_true rfl)) d_A_add_20 ⟨Nat.le_of_ble_eq_true rfl, Nat.le_of_ble_eq_true rfl⟩) hD hS hA (fun u H locs hw hP hD hS => ?_)
  obtain ⟨v20_0, rfl⟩ : ∃ z, z = u := ⟨_, rfl⟩
  have hP : va_P D vwCl ((wH a0 v20_0 (0 + 1) (mo + 1)) ++ ((wR cO v20_0 10 (va_up (fun _ => none) (0 : Int32).toNatClampNeg (some el))) ++ fr)) H := hP
  have hD : va_D A ((wH a0 v20_0 (0 + 1) (mo + 1)) ++ ((wR cO v20_0 10 (va_up (fun _ => none) (0 : Int32).toNatClampNeg (some el))) ++ fr)) := hD
  refine lv_iconst (v := 1) hx hb d_A_add_23 (by decide) ?_
  rw [hQ]; exact retMz (w1 := fun u : Nat => (wH a0 u (0 + 1) (mo + 1) ++ (wR cO u 10 (va_up (fun _ => none) (0 : Int32).toNatClampNeg (some el)) ++ fr))) v20_0 hx hb hr hlocks rfl hP hD hS rfl d_A_add_24

set_option maxHeartbeats 1000000 in
set_option maxRecDepth 100000 in
theorem c_A_addg (l : Launch) (D : va_G) (cI cL cO : ClassId) (N t0 mi : Nat) (a0 : Nat) (d0 : Nat) (sz : Int32) (mo : Int32) (cap : Nat) (rf : Nat → Option Nat) (fr : va_W) (el : Nat) (cap2 : Nat) (hcp : 0 < cap) (hc : cap ≤ cap2) (hc2 : cap2 ≤ 40) (hel : elB rf cap fr) (hg : Int32.ofNat cap + maxF (sz + 1 - Int32.ofNat cap) (Int32.ofNat cap >>> ((1 : Int32) &&& 31)) = nI cap2) (hk : sz = Int32.ofNat cap) (hi : vp_in sz cap2) (he : ∃ fs, (el, (.inr (0, fs) : va_E)) ∈ fr) : CXi l y_A_add w_A_add ({ frames := 6, cells := 1, slots := 40, locals := 170 }) D cI cL cO N t0 mi [.ref a0, .ref el] ((wH a0 d0 sz mo) ++ ((wR cO d0 cap rf) ++ fr)) (fun (r : Int32) (u : Nat) => r = 1) (fun u : Nat => (wH a0 u (sz + 1) (mo + 1) ++ (wR cO u cap2 (va_up (va_cpy rf (fun _ => none) 0 0 cap) sz.toNatClampNeg (some el)) ++ fr))) 1 40 := by
  refine ofXi (cc := b_A_add) (maxL := 2) (ret := (some .boolean)) (by decide) rfl (Nat.le_of_ble_eq_true rfl) ?_
  intro p e s m below meth c A ls H Q hQ hx hb hr hlocks hin hts hown hml hP hK hD hS hA hl hE hN hAN
  have hl : lv_has ls 2 [(0, .ref a0), (1, .ref el)] := hl
  have hown : s.vm.findClass R_A = some m.cls := hown
  have ht : ∀ w ∈ BIG, w.before _ s = true := fun w h => hts w (List.mem_cons_of_mem _ h)
  refine lv_aload_n hx hb d_A_add_0 rfl (lv_at hl 0 rfl) ?_
  refine lv_dup hx hb d_A_add_1 rfl ?_
  refine va_get (ci := 4) (v := .int mo) (C := R_A) (T := T_A) (N := 3) hx hb ht in_A hown hK.1 hP 0 rfl rfl 2 (by decide) (ht _ k_fl_A_63) (u_same (ht _ ky_sf)) rfl d_A_add_2 ?_
  refine lv_iconst (v := 1) hx hb d_A_add_5 (by decide) ?_
  refine lv_iadd hx hb d_A_add_6 ?_
  refine va_put (ci := 4) (v := .int (mo + 1)) (ty := .int) (C := R_A) (T := T_A) (N := 3) hx hb ht in_A t_A t_A_ok n_A hown hK.1 hP hD hS 0 rfl rfl 2 (by decide) (ht _ k_fl_A_63) (u_same (ht _ ky_sf)) rfl (by decide +kernel) rfl rfl (Nat.le_of_ble_eq_true rfl) d_A_add_7 (fun H locs hP hD hS => ?_)
  have hP : va_P D vwCl ((wH a0 d0 sz (mo + 1)) ++ ((wR cO d0 cap rf) ++ fr)) H := hP
  have hD : va_D A ((wH a0 d0 sz (mo + 1)) ++ ((wR cO d0 cap rf) ++ fr)) := hD
  refine lv_aload_n hx hb d_A_add_10 rfl (lv_at hl 0 rfl) ?_
  refine lv_aload_n hx hb d_A_add_11 rfl (lv_at hl 1 rfl) ?_
  refine lv_aload_n hx hb d_A_add_12 rfl (lv_at hl 0 rfl) ?_
  refine va_get (ci := 4) (v := .ref d0) (C := R_A) (T := T_A) (N := 3) hx hb ht in_A hown hK.1 hP 0 rfl rfl 0 (by decide) (ht _ k_fl_A_9) (fun _ h9 => h9) rfl d_A_add_13 ?_
  refine lv_aload_n hx hb d_A_add_16 rfl (lv_at hl 0 rfl) ?_
  refine va_get (ci := 4) (v := .int sz) (C := R_A) (T := T_A) (N := 3) hx hb ht in_A hown hK.1 hP 0 rfl rfl 1 (by decide) (ht _ k_fl_A_48) (fun _ h9 => h9) rfl d_A_add_17 ?_
  refine goMv (va_runV (As := [.ref el, .ref d0, .int sz]) (rest := []) ⟨hx, hb, hml, hown, hts⟩ (c_A_add2g l D cI cL cO N t0 mi a0 d0 sz (mo + 1) cap rf fr el sz cap2 hcp hc hc2 hel hg hk hi he H.size) (cwV 3 hts (gBIG (m4 k_ml_A_131 k_im_A_add2 k_sel_A_add2 k_ini_A) k_co_A_add2) rfl rfl rfl (by decide +kernel) ⟨Nat.le_of_ble_eq_true rfl, Nat.le_of_ble_eq_true rfl⟩) ⟨PX.bl, va_recv hK.1 hP (ci := 4) (q0 := 0) rfl rfl, PX.pre hP hD hK hE hS hAN hN⟩ rfl rfl hl.1 rfl (lv_room (Nat.le_of_ble_eq_true rfl)) d_A_add_20 ⟨Nat.le_of_ble_eq_true rfl, Nat.le_of_ble_eq_true rfl⟩) hD hS hA (fun u H locs hw hP hD hS => ?_)
  obtain ⟨v20_0, rfl⟩ : ∃ z, z = u := ⟨_, rfl⟩
  have hP : va_P D vwCl ((wH a0 v20_0 (sz + 1) (mo + 1)) ++ ((wR cO v20_0 cap2 (va_up (va_cpy rf (fun _ => none) 0 0 cap) sz.toNatClampNeg (some el))) ++ fr)) H := hP
  have hD : va_D A ((wH a0 v20_0 (sz + 1) (mo + 1)) ++ ((wR cO v20_0 cap2 (va_up (va_cpy rf (fun _ => none) 0 0 cap) sz.toNatClampNeg (some el))) ++ fr)) := hD
  refine lv_iconst (v := 1) hx hb d_A_add_23 (by decide) ?_
  rw [hQ]; exact retMz (w1 := fun u : Nat => (wH a0 u (sz + 1) (mo + 1) ++ (wR cO u cap2 (va_up (va_cpy rf (fun _ => none) 0 0 cap) sz.toNatClampNeg (some el)) ++ fr))) v20_0 hx hb hr hlocks rfl hP hD hS rfl d_A_add_24
