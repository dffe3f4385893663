/-! lists: reading, making -/
set_option maxHeartbeats 4000000 in
set_option maxRecDepth 100000 in
/-- ArrayList.size() -/
theorem c_AL_size (l : Launch) (G : gG) (L : List Nat) (f : Nat → va_E) (sz : Nat) (q d : Nat) (mo n : Int32) (hq : q ∈ L) (hf : f q = .inr (0, [.int mo, .ref d, .int n])) : sI l y_AL_size w_AL_size ({ frames := 0, cells := 0, slots := 0, locals := 0 }) G L f sz [.ref q] (fun r => r = n) := by
  refine pz_met (cc := prog_27_method_8_code) (maxL := 1) (ret := (some .int)) (by decide) rfl (Nat.le_of_ble_eq_true rfl) ?_
  intro p e s m below meth c ls hx hb hr hml hts hown hlocks hin hsz hK hP hD hS hA hz hl
  have htb : ∀ w ∈ TB, w.before _ s = true := fun w h => hts w (List.mem_cons_of_mem _ h)
  have hl : lv_has ls 1 [(0, .ref q)] := hl
  refine lv_aload_n hx hb d_AL_size_0 rfl (lv_at hl 0 rfl) ?_
  refine pz_get (ci := 0) (C := "java/util/ArrayList") (T := T_AL) (N := 3) hx hb htb in_AL hown hK hP hq hf rfl 2 (by decide) (htb _ tw_50) (fun _ h9 => h9) rfl d_AL_size_1 ?_
  exact pz_iretS hx hb hr rfl hlocks rfl d_AL_size_4
set_option maxHeartbeats 4000000 in
set_option maxRecDepth 100000 in
/-- Preconditions.checkIndex(i, n, null) -/
theorem c_PR_checkIndex (l : Launch) (i n : Int32) (h1 : ¬ i < 0) (h2 : i < n) : pI l y_PR_checkIndex w_PR_checkIndex ({ frames := 0, cells := 0, slots := 0, locals := 0 }) [.int i, .int n, .null] (fun r => r = i) := by
  refine pz_metP (cc := prog_35_method_11_code) (maxL := 3) (ret := (some .int)) (by decide) rfl (Nat.le_of_ble_eq_true rfl) ?_
  intro p e s m below meth c ls hx hb hr hml hts hown hlocks hl
  have htb : ∀ w ∈ TB, w.before _ s = true := fun w h => hts w (List.mem_cons_of_mem _ h)
  have hl : lv_has ls 3 [(0, .int i), (1, .int n), (2, .null)] := hl
  refine lv_iload_n hx hb d_PR_checkIndex_0 rfl (lv_at hl 0 rfl) ?_
  refine lv_if_lt (tgt := 9) hx hb d_PR_checkIndex_1 (by decide) (fun c_1 => ?_) (fun c_1 => ?_)
  · exact absurd c_1 h1
  · refine lv_iload_n hx hb d_PR_checkIndex_4 rfl (lv_at hl 0 rfl) ?_
    refine lv_iload_n hx hb d_PR_checkIndex_5 rfl (lv_at hl 1 rfl) ?_
    refine lv_icmp_lt (tgt := 16) hx hb d_PR_checkIndex_6 (by decide) (fun c_2 => ?_) (fun c_2 => ?_)
    · refine lv_iload_n hx hb d_PR_checkIndex_16 rfl (lv_at hl 0 rfl) ?_
      exact pz_iretS hx hb hr rfl hlocks rfl d_PR_checkIndex_17
    · exact absurd h2 c_2
set_option maxHeartbeats 4000000 in
set_option maxRecDepth 100000 in
/-- Objects.checkIndex(i, n) -/
theorem c_OB_checkIndex (l : Launch) (i n : Int32) (h1 : ¬ i < 0) (h2 : i < n) : pI l y_OB_checkIndex w_OB_checkIndex ({ frames := 1, cells := 0, slots := 0, locals := 22 }) [.int i, .int n] (fun r => r = i) := by
  refine pz_metP (cc := prog_31_method_17_code) (maxL := 2) (ret := (some .int)) (by decide) rfl (Nat.le_of_ble_eq_true rfl) ?_
  intro p e s m below meth c ls hx hb hr hml hts hown hlocks hl
  have htb : ∀ w ∈ TB, w.before _ s = true := fun w h => hts w (List.mem_cons_of_mem _ h)
  have hl : lv_has ls 2 [(0, .int i), (1, .int n)] := hl
  refine lv_iload_n hx hb d_OB_checkIndex_0 rfl (lv_at hl 0 rfl) ?_
  refine lv_iload_n hx hb d_OB_checkIndex_1 rfl (lv_at hl 1 rfl) ?_
  refine lv_null hx hb d_OB_checkIndex_2 ?_
  refine vp_callSi (va_Run.run (va_runS (As := [.int i, .int n, .null]) (rest := []) ⟨hx, hb, hml, hown, hts⟩ (c_PR_checkIndex l i n h1 h2) (va_cwS 3 hts (tb_SS tw_397 tw_398 tw_21 tw_399) rfl rfl rfl (by decide +kernel) ⟨(Nat.le_of_ble_eq_true rfl), (Nat.le_of_ble_eq_true rfl)⟩) pz_preP rfl rfl hl.1 rfl (lv_room (Nat.le_of_ble_eq_true rfl)) d_OB_checkIndex_3 ⟨(Nat.le_of_ble_eq_true rfl), (Nat.le_of_ble_eq_true rfl)⟩)) (fun r1 hw => ?_)
  have hw : r1 = i := hw
  subst r1
  exact pz_iretS hx hb hr rfl hlocks rfl d_OB_checkIndex_6
set_option maxHeartbeats 4000000 in
set_option maxRecDepth 100000 in
/-- ArrayList.elementData(i) -/
theorem c_AL_elementData (l : Launch) (G : gG) (L : List Nat) (f : Nat → va_E) (sz : Nat) (q d cap : Nat) (mo n i : Int32) (a : Nat → Option Nat) (hq : q ∈ L) (hf : f q = .inr (0, [.int mo, .ref d, .int n])) (hd : d ∈ L) (hfd : f d = .inl (cO G, cap, .inr (.inr (.inr (.inr a))))) (hi : vp_in i cap) : sQ l y_AL_elementData w_AL_elementData ({ frames := 0, cells := 0, slots := 0, locals := 0 }) G L f sz [.ref q, .int i] (fun r => r = a i.toNatClampNeg) := by
  refine pz_met (cc := prog_27_method_18_code) (maxL := 2) (ret := (some (.object "java/lang/Object"))) (by decide) rfl (Nat.le_of_ble_eq_true rfl) ?_
  intro p e s m below meth c ls hx hb hr hml hts hown hlocks hin hsz hK hP hD hS hA hz hl
  have htb : ∀ w ∈ TB, w.before _ s = true := fun w h => hts w (List.mem_cons_of_mem _ h)
  have hl : lv_has ls 2 [(0, .ref q), (1, .int i)] := hl
  refine lv_aload_n hx hb d_AL_elementData_0 rfl (lv_at hl 0 rfl) ?_
  refine pz_get (ci := 0) (C := "java/util/ArrayList") (T := T_AL) (N := 3) hx hb htb in_AL hown hK hP hq hf rfl 1 (by decide) (htb _ tw_49) (fun _ h9 => h9) rfl d_AL_elementData_1 ?_
  refine lv_iload_n hx hb d_AL_elementData_4 rfl (lv_at hl 1 rfl) ?_
  have hin1 : vp_in i cap := hi
  refine pz_aldq hx hb hK hP 2 hd hfd rfl hin1 d_AL_elementData_5 ?_
  exact pz_aretS hx hb hr (Or.inl ⟨_, rfl⟩) hlocks rfl d_AL_elementData_6
set_option maxHeartbeats 4000000 in
set_option maxRecDepth 100000 in
/-- ArrayList.get(i) -/
theorem c_AL_get (l : Launch) (G : gG) (L : List Nat) (f : Nat → va_E) (sz : Nat) (q d cap : Nat) (mo n i : Int32) (a : Nat → Option Nat) (hq : q ∈ L) (hf : f q = .inr (0, [.int mo, .ref d, .int n])) (hd : d ∈ L) (hfd : f d = .inl (cO G, cap, .inr (.inr (.inr (.inr a))))) (hi : vp_in i cap) (h1 : ¬ i < 0) (h2 : i < n) : sQ l y_AL_get w_AL_get ({ frames := 2, cells := 0, slots := 0, locals := 43 }) G L f sz [.ref q, .int i] (fun r => r = a i.toNatClampNeg) := by
  refine pz_met (cc := prog_27_method_20_code) (maxL := 2) (ret := (some (.object "java/lang/Object"))) (by decide) rfl (Nat.le_of_ble_eq_true rfl) ?_
  intro p e s m below meth c ls hx hb hr hml hts hown hlocks hin hsz hK hP hD hS hA hz hl
  have htb : ∀ w ∈ TB, w.before _ s = true := fun w h => hts w (List.mem_cons_of_mem _ h)
  have hl : lv_has ls 2 [(0, .ref q), (1, .int i)] := hl
  refine lv_iload_n hx hb d_AL_get_0 rfl (lv_at hl 1 rfl) ?_
  refine lv_aload_n hx hb d_AL_get_1 rfl (lv_at hl 0 rfl) ?_
  refine pz_get (ci := 0) (C := "java/util/ArrayList") (T := T_AL) (N := 3) hx hb htb in_AL hown hK hP hq hf rfl 2 (by decide) (htb _ tw_50) (fun _ h9 => h9) rfl d_AL_get_2 ?_
  refine vp_callSi (va_Run.run (va_runS (As := [.int i, .int n]) (rest := []) ⟨hx, hb, hml, hown, hts⟩ (c_OB_checkIndex l i n h1 h2) (va_cwS 2 hts (tb_SS tw_394 tw_395 tw_20 tw_396) rfl rfl rfl (by decide +kernel) ⟨(Nat.le_of_ble_eq_true rfl), (Nat.le_of_ble_eq_true rfl)⟩) pz_preP rfl rfl hl.1 rfl (lv_room (Nat.le_of_ble_eq_true rfl)) d_AL_get_5 ⟨(Nat.le_of_ble_eq_true rfl), (Nat.le_of_ble_eq_true rfl)⟩)) (fun r1 hw => ?_)
  have hw : r1 = i := hw
  subst r1
  refine lv_pop hx hb d_AL_get_8 rfl ?_
  refine lv_aload_n hx hb d_AL_get_9 rfl (lv_at hl 0 rfl) ?_
  refine lv_iload_n hx hb d_AL_get_10 rfl (lv_at hl 1 rfl) ?_
  refine va_csq (va_Run.run (va_runV (As := [.int i]) (rest := []) ⟨hx, hb, hml, hown, hts⟩ (c_AL_elementData l G L f _ q d cap mo n i a hq hf hd hfd hi) (cwV 1 hts (tb_V tw_400 tw_401 tw_402 tw_4 tw_403) rfl rfl rfl (by decide +kernel) ⟨(Nat.le_of_ble_eq_true rfl), (Nat.le_of_ble_eq_true rfl)⟩) (pz_preV (zz_ok _ _ _) hK hP hD hS hA hz (ci := 0) rfl rfl hq hf) rfl rfl hl.1 rfl (lv_room (Nat.le_of_ble_eq_true rfl)) d_AL_get_11 ⟨(Nat.le_of_ble_eq_true rfl), (Nat.le_of_ble_eq_true rfl)⟩)) (fun r2 hw => ?_)
  have hw : r2 = (a i.toNatClampNeg) := hw
  subst r2
  exact pz_aretS hx hb hr (Or.inl ⟨_, rfl⟩) hlocks rfl d_AL_get_14
set_option maxHeartbeats 4000000 in
set_option maxRecDepth 100000 in
/-- AbstractCollection() -/
theorem c_AC_init (l : Launch) (G : gG) (L : List Nat) (f : Nat → va_E) (sz : Nat) (q : Nat) : mV l y_AC_init w_AC_init ({ frames := 1, cells := 0, slots := 0, locals := 20 }) G L f sz [.ref q] 0 0 (fun u => u = (L, f)) := by
  refine pz_met (cc := prog_25_method_1_code) (maxL := 1) (ret := none) (by decide) rfl (Nat.le_of_ble_eq_true rfl) ?_
  intro p e s m below meth c ls hx hb hr hml hts hown hlocks hin hsz hK hP hD hS hA hz hl
  have htb : ∀ w ∈ TB, w.before _ s = true := fun w h => hts w (List.mem_cons_of_mem _ h)
  have hl : lv_has ls 1 [(0, .ref q)] := hl
  refine lv_aload_n hx hb d_AC_init_0 rfl (lv_at hl 0 rfl) ?_
  refine W.objInit hx hb hown (htb _ tw_46) (htb _ tw_33) (htb _ tw_34) rfl (by rw [hml]; exact hl.1) rfl d_AC_init_1 (Nat.le_of_ble_eq_true rfl) (Nat.le_of_ble_eq_true rfl) ?_
  refine W.eq (g2 := F0 m 4 ls []) rfl ?_
  exact pz_vret hx hb hr hlocks hK hP hD hS (Nat.le_of_ble_eq_true rfl) (Nat.le_of_ble_eq_true rfl) rfl d_AC_init_4
set_option maxHeartbeats 4000000 in
set_option maxRecDepth 100000 in
/-- AbstractList() -/
theorem c_AB_init (l : Launch) (G : gG) (L : List Nat) (f : Nat → va_E) (sz : Nat) (q : Nat) (mo n : Int32) (hq : q ∈ L) (hf : f q = .inr (0, [.int mo, .null, .int n])) : mV l y_AB_init w_AB_init ({ frames := 2, cells := 0, slots := 0, locals := 40 }) G L f sz [.ref q] 0 0 (fun u => u = (L, va_up f q (.inr (0, [.int 0, .null, .int n])))) := by
  refine pz_met (cc := prog_26_method_1_code) (maxL := 1) (ret := none) (by decide) rfl (Nat.le_of_ble_eq_true rfl) ?_
  intro p e s m below meth c ls hx hb hr hml hts hown hlocks hin hsz hK hP hD hS hA hz hl
  have htb : ∀ w ∈ TB, w.before _ s = true := fun w h => hts w (List.mem_cons_of_mem _ h)
  have hl : lv_has ls 1 [(0, .ref q)] := hl
  refine lv_aload_n hx hb d_AB_init_0 rfl (lv_at hl 0 rfl) ?_
  refine pz_cv (va_runI (As := []) (rest := []) ⟨hx, hb, hml, hown, hts⟩ (c_AC_init l G L f _ q) (cwI 0 hts (tb_good tw_45) rfl rfl rfl (htb _ tw_2) (htb _ tw_43) (htb _ tw_44) rfl (by decide +kernel) ⟨(Nat.le_of_ble_eq_true rfl), (Nat.le_of_ble_eq_true rfl)⟩) (pz_pre (zz_ok _ _ _) hK hP hD hS hA hz) rfl rfl hl.1 rfl (lv_room (Nat.le_of_ble_eq_true rfl)) d_AB_init_1 ⟨(Nat.le_of_ble_eq_true rfl), (Nat.le_of_ble_eq_true rfl)⟩) hP hD hS hA (fun L2 f1 H locs hw hP hD hS => ?_)
  have ef1 : f1 = f := (Prod.mk.inj hw).2
  have eL2 : L2 = L := (Prod.mk.inj hw).1
  subst L2
  subst f1
  refine lv_aload_n hx hb d_AB_init_4 rfl (lv_at hl 0 rfl) ?_
  refine lv_iconst (v := 0) hx hb d_AB_init_5 (by decide) ?_
  refine pz_put (ci := 0) (v := .int 0) (ty := .int) (C := "java/util/ArrayList") (T := T_AL) (N := 3) hx hb htb in_AL ty_AL to_AL nm_AL hown hK hP hD hS hq hf rfl 0 (by decide) (htb _ tw_51) (fun _ h9 => h9) rfl rfl rfl rfl (Nat.le_of_ble_eq_true rfl) d_AB_init_6 (fun f3 H locs ef3 hP hD hS => ?_)
  have ef3 : f3 = va_up f q (.inr (0, [.int 0, .null, .int n])) := ef3
  exact pz_vret hx hb hr hlocks hK hP hD hS (Nat.le_of_ble_eq_true rfl) (Nat.le_of_ble_eq_true rfl) (by rw [ef3]) d_AB_init_9
set_option maxHeartbeats 4000000 in
set_option maxRecDepth 100000 in
/-- ArrayList() -/
theorem c_AL_init (l : Launch) (G : gG) (L : List Nat) (f : Nat → va_E) (sz : Nat) (q : Nat) (mo n : Int32) (hq : q ∈ L) (hf : f q = .inr (0, [.int mo, .null, .int n])) : mV l y_AL_init w_AL_init ({ frames := 3, cells := 0, slots := 0, locals := 60 }) G L f sz [.ref q] 0 0 (fun u => u = (L, va_up f q (.inr (0, [.int 0, .ref G.2.2.1, .int n])))) := by
  refine pz_met (cc := prog_27_method_2_code) (maxL := 1) (ret := none) (by decide) rfl (Nat.le_of_ble_eq_true rfl) ?_
  intro p e s m below meth c ls hx hb hr hml hts hown hlocks hin hsz hK hP hD hS hA hz hl
  have htb : ∀ w ∈ TB, w.before _ s = true := fun w h => hts w (List.mem_cons_of_mem _ h)
  have hl : lv_has ls 1 [(0, .ref q)] := hl
  refine lv_aload_n hx hb d_AL_init_0 rfl (lv_at hl 0 rfl) ?_
  refine pz_cv (va_runI (As := []) (rest := []) ⟨hx, hb, hml, hown, hts⟩ (c_AB_init l G L f _ q mo n hq hf) (cwI 0 hts (tb_good tw_42) rfl rfl rfl (htb _ tw_3) (htb _ tw_40) (htb _ tw_41) rfl (by decide +kernel) ⟨(Nat.le_of_ble_eq_true rfl), (Nat.le_of_ble_eq_true rfl)⟩) (pz_pre (zz_ok _ _ _) hK hP hD hS hA hz) rfl rfl hl.1 rfl (lv_room (Nat.le_of_ble_eq_true rfl)) d_AL_init_1 ⟨(Nat.le_of_ble_eq_true rfl), (Nat.le_of_ble_eq_true rfl)⟩) hP hD hS hA (fun L2 f1 H locs hw hP hD hS => ?_)
  have ef1 : f1 = va_up (f) q (.inr (0, [.int 0, .null, .int n])) := (Prod.mk.inj hw).2
  have eL2 : L2 = L := (Prod.mk.inj hw).1
  subst L2
  refine lv_aload_n hx hb d_AL_init_4 rfl (lv_at hl 0 rfl) ?_
  refine va_gets (C := "java/util/ArrayList") hx hb hz.2.2.2.2.2.1 hS hown (htb _ tw_47) (fun _ h9 => h9) d_AL_init_5 ?_
  have h_3 : f1 q = .inr (0, [.int 0, .null, .int n]) := by rw [ef1]; exact va_up_self _ _ _
  refine pz_put (ci := 0) (v := .ref G.2.2.1) (ty := .array (.object "java/lang/Object")) (C := "java/util/ArrayList") (T := T_AL) (N := 3) hx hb htb in_AL ty_AL to_AL nm_AL hown hK hP hD hS hq h_3 rfl 1 (by decide) (htb _ tw_49) (fun _ h9 => h9) rfl rfl rfl rfl (Nat.le_of_ble_eq_true rfl) d_AL_init_8 (fun f4 H locs ef4 hP hD hS => ?_)
  have ef4 : f4 = va_up f1 q (.inr (0, [.int 0, .ref G.2.2.1, .int n])) := ef4
  exact pz_vret hx hb hr hlocks hK hP hD hS (Nat.le_of_ble_eq_true rfl) (Nat.le_of_ble_eq_true rfl) (by rw [ef4, ef1, bx_uu]) d_AL_init_11
set_option maxHeartbeats 4000000 in
set_option maxRecDepth 100000 in
/-- ArraysSupport.newLength(i, j, k) -/
theorem c_AS_newLength (l : Launch) (i j k : Int32) (h1 : 0 < i + (if j < k then k else j)) (h2 : i + (if j < k then k else j) ≤ 2147483639) : pI l y_AS_newLength w_AS_newLength ({ frames := 1, cells := 0, slots := 0, locals := 40 }) [.int i, .int j, .int k] (fun r => r = i + (if j < k then k else j)) := by
  refine pz_metP (cc := prog_34_method_27_code) (maxL := 4) (ret := (some .int)) (by decide) rfl (Nat.le_of_ble_eq_true rfl) ?_
  intro p e s m below meth c ls hx hb hr hml hts hown hlocks hl
  have htb : ∀ w ∈ TB, w.before _ s = true := fun w h => hts w (List.mem_cons_of_mem _ h)
  have hl : lv_has ls 4 [(0, .int i), (1, .int j), (2, .int k)] := hl
  refine lv_iload_n hx hb d_AS_newLength_0 rfl (lv_at hl 0 rfl) ?_
  refine lv_iload_n hx hb d_AS_newLength_1 rfl (lv_at hl 1 rfl) ?_
  refine lv_iload_n hx hb d_AS_newLength_2 rfl (lv_at hl 2 rfl) ?_
  refine va_mmax hx hb (hml.trans hl.1.symm) hown (htb _ tw_339) (htb _ tw_340) (htb _ tw_17) (htb _ tw_341) (Nat.le_of_ble_eq_true rfl) (Nat.le_of_ble_eq_true rfl) (Nat.le_of_ble_eq_true rfl) (Nat.le_of_ble_eq_true rfl) d_AS_newLength_3 ?_
  refine lv_iadd hx hb d_AS_newLength_6 ?_
  refine lv_istore_n (lv' := [(3, .int (i + (if j < k then k else j))), (0, .int i), (1, .int j), (2, .int k)]) hx hb d_AS_newLength_7 rfl hl (by decide) rfl (fun ls hl => ?_)
  refine lv_iconst (v := 0) hx hb d_AS_newLength_8 (by decide) ?_
  refine lv_iload_n hx hb d_AS_newLength_9 rfl (lv_at hl 0 rfl) ?_
  refine lv_icmp_ge (tgt := 21) hx hb d_AS_newLength_10 (by decide) (fun c_1 => ?_) (fun c_1 => ?_)
  · exact absurd c_1 (i32_nle h1)
  · refine lv_iload_n hx hb d_AS_newLength_13 rfl (lv_at hl 0 rfl) ?_
    refine lv_ldc (v := 2147483639) hx hb hown (htb _ tw_342) d_AS_newLength_14 ?_
    refine lv_icmp_gt (tgt := 21) hx hb d_AS_newLength_16 (by decide) (fun c_2 => ?_) (fun c_2 => ?_)
    · exact absurd c_2 (i32_nlt h2)
    · refine lv_iload_n hx hb d_AS_newLength_19 rfl (lv_at hl 0 rfl) ?_
      exact pz_iretS hx hb hr rfl hlocks rfl d_AS_newLength_20
