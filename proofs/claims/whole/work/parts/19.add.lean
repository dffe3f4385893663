/-! lists: grow, add -/
theorem gr_len {cap : Nat} (h1 : 10 ≤ cap) (h2 : cap ≤ 600) : nI cap + (if nI (cap + 1) - nI cap < nI cap >>> ((1 : Int32) &&& 31) then nI cap >>> ((1 : Int32) &&& 31) else nI (cap + 1) - nI cap) = nI (cap + cap / 2) ∧ 0 < nI cap + (if nI (cap + 1) - nI cap < nI cap >>> ((1 : Int32) &&& 31) then nI cap >>> ((1 : Int32) &&& 31) else nI (cap + 1) - nI cap) ∧ nI cap + (if nI (cap + 1) - nI cap < nI cap >>> ((1 : Int32) &&& 31) then nI cap >>> ((1 : Int32) &&& 31) else nI (cap + 1) - nI cap) ≤ 2147483639 := by
  have es : nI cap >>> ((1 : Int32) &&& 31) = nI (cap / 2) := by
    have k := pk_shrN (n := cap) (by omega) ((1 : Int32) &&& 31) 1 (by decide)
    rw [Nat.pow_one] at k
    exact k
  have ed : nI (cap + 1) - nI cap = nI 1 := by
    have k := pk_sub (a := cap + 1) (b := cap) (by omega)
    rw [Nat.add_sub_cancel_left] at k
    exact k
  rw [es, ed, if_pos (nI_lt (by omega) (by omega)), nI_add]
  exact ⟨rfl, show nI 0 < _ from nI_lt (by omega) (by omega), show _ ≤ nI 2147483639 from nI_le (by omega) (by omega)⟩
theorem el_keep {L : List Nat} {f f1 : Nat → va_E} {y q : Nat} {x x1 : List Value} (h : elOK L f y) (ef : f1 = va_up f q (.inr (0, x1))) (hq : f q = .inr (0, x)) : elOK L f1 y := by
  obtain ⟨h1, ci, fs, h2, h3⟩ := h
  refine ⟨h1, ci, fs, ?_, h3⟩
  rw [ef, va_up_ne _ _ (pz_nec h2 hq (by omega))]
  exact h2
set_option maxHeartbeats 4000000 in
set_option maxRecDepth 100000 in
/-- grow(1), the first of all -/
theorem c_growI_first (l : Launch) (G : gG) (L : List Nat) (f : Nat → va_E) (sz : Nat) (q : Nat) (mo n : Int32) (hq : q ∈ L) (hf : f q = .inr (0, [.int mo, .ref G.2.2.1, .int n])) : mR l y_AL_grow1 w_AL_grow1 ({ frames := 1, cells := 1, slots := 10, locals := 40 }) G L f sz [.ref q, .int (nI 1)] 1 10 (fun u => u.1 ∉ L ∧ u.2.1 = L ++ [u.1] ∧ u.2.2 = va_up (va_up f u.1 (.inl (cO G, 10, .inr (.inr (.inr (.inr (fun _ => none))))))) q (.inr (0, [.int mo, .ref u.1, .int n]))) := by
  refine pz_met (cc := prog_27_method_6_code) (maxL := 4) (ret := (some (.array (.object "java/lang/Object")))) (by decide) rfl (Nat.le_of_ble_eq_true rfl) ?_
  intro p e s m below meth c ls hx hb hr hml hts hown hlocks hin hsz hK hP hD hS hA hz hl
  have htb : ∀ w ∈ TB, w.before _ s = true := fun w h => hts w (List.mem_cons_of_mem _ h)
  have hl : lv_has ls 4 [(0, .ref q), (1, .int (nI 1))] := hl
  refine lv_aload_n hx hb d_AL_grow1_0 rfl (lv_at hl 0 rfl) ?_
  refine pz_get (ci := 0) (C := "java/util/ArrayList") (T := T_AL) (N := 3) hx hb htb in_AL hown hK hP hq hf rfl 1 (by decide) (htb _ tw_49) (fun _ h9 => h9) rfl d_AL_grow1_1 ?_
  refine va_tlen hx hb hz.2.2.2.2.2.2.1 hS (v := 0) rfl d_AL_grow1_4 ?_
  refine lv_istore_n (lv' := [(2, .int 0), (0, .ref q), (1, .int (nI 1))]) hx hb d_AL_grow1_5 rfl hl (by decide) rfl (fun ls hl => ?_)
  refine lv_iload_n hx hb d_AL_grow1_6 rfl (lv_at hl 0 rfl) ?_
  refine lv_if_gt (tgt := 20) hx hb d_AL_grow1_7 (by decide) (fun c0 => absurd c0 (by decide)) (fun _ => ?_)
  refine lv_aload_n hx hb d_AL_grow1_10 rfl (lv_at hl 1 rfl) ?_
  refine pz_get (ci := 0) (C := "java/util/ArrayList") (T := T_AL) (N := 3) hx hb htb in_AL hown hK hP hq hf rfl 1 (by decide) (htb _ tw_49) (fun _ h9 => h9) rfl d_AL_grow1_11 ?_
  refine va_gets (C := "java/util/ArrayList") hx hb hz.2.2.2.2.2.1 hS hown (htb _ tw_47) (fun _ h9 => h9) d_AL_grow1_14 ?_
  refine lv_acmp_eq (rx := some G.2.2.1) (ry := some G.2.2.1) (tgt := 45) hx hb d_AL_grow1_17 (by decide) (fun _ => ?_) (fun h9 => absurd rfl h9)
  refine lv_aload_n hx hb d_AL_grow1_45 rfl (lv_at hl 1 rfl) ?_
  refine lv_bipush (v := 10) hx hb d_AL_grow1_46 (by decide) ?_
  refine lv_iload_n hx hb d_AL_grow1_48 rfl (lv_at hl 2 rfl) ?_
  refine va_mmax hx hb (hml.trans hl.1.symm) hown (htb _ tw_379) (htb _ tw_340) (htb _ tw_17) (htb _ tw_341) (Nat.le_of_ble_eq_true rfl) (Nat.le_of_ble_eq_true rfl) (Nat.le_of_ble_eq_true rfl) (Nat.le_of_ble_eq_true rfl) d_AL_grow1_49 ?_
  refine lv_topi (fun x1 ex1 => ?_)
  have ex1 : x1 = 10 := ex1.trans (by decide)
  subst ex1
  refine pz_newo hx hb hown (htb _ tw_380) hz.2.2.1 hK hP hD hS hA 2 rfl 10 (by decide) (by decide) (by decide) (Nat.le_of_ble_eq_true rfl) (Nat.le_of_ble_eq_true rfl) d_AL_grow1_52 (fun q2 L3 f4 H hnq2 eL3 ef4 hP hD hS => ?_)
  subst L3
  refine lv_dup_x1 hx hb d_AL_grow1_55 rfl rfl ?_
  have h_5 : f4 q = .inr (0, [.int mo, .ref G.2.2.1, .int n]) := by rw [ef4, va_up_ne _ _ (Ne.symm (pz_nef hnq2 hq))]; exact hf
  refine pz_put (ci := 0) (v := .ref q2) (ty := .array (.object "java/lang/Object")) (C := "java/util/ArrayList") (T := T_AL) (N := 3) hx hb htb in_AL ty_AL to_AL nm_AL hown hK hP hD hS (List.mem_append_left _ hq) h_5 rfl 1 (by decide) (htb _ tw_49) (fun _ h9 => h9) rfl rfl rfl rfl (Nat.le_of_ble_eq_true rfl) d_AL_grow1_56 (fun f6 H locs ef6 hP hD hS => ?_)
  have ef6 : f6 = va_up f4 q (.inr (0, [.int mo, .ref q2, .int n])) := ef6
  exact pz_aret hx hb hr (Or.inr ⟨_, rfl⟩) hlocks hK hP hD hS (Nat.le_of_ble_eq_true rfl) (Nat.le_of_ble_eq_true rfl) ⟨hnq2, rfl, by rw [ef6, ef4]⟩ d_AL_grow1_59
set_option maxHeartbeats 4000000 in
set_option maxRecDepth 100000 in
/-- grow(n + 1) of a full list -/
theorem c_growI_full (l : Launch) (G : gG) (L : List Nat) (f : Nat → va_E) (sz : Nat) (q d cap : Nat) (mo n : Int32) (a : Nat → Option Nat) (hq : q ∈ L) (hf : f q = .inr (0, [.int mo, .ref d, .int n])) (hd : d ∈ L) (hfd : f d = .inl (cO G, cap, .inr (.inr (.inr (.inr a))))) (h1 : 10 ≤ cap) (h2 : cap ≤ 600) (hel : ∀ i, i < cap → ∀ y, a i = some y → elOK L f y) : mR l y_AL_grow1 w_AL_grow1 ({ frames := 3, cells := 1, slots := (cap + cap / 2), locals := 84 }) G L f sz [.ref q, .int (nI (cap + 1))] 1 (cap + cap / 2) (fun u => u.1 ∉ L ∧ u.2.1 = L ++ [u.1] ∧ u.2.2 = va_up (va_up f u.1 (.inl (cO G, (cap + cap / 2), .inr (.inr (.inr (.inr (va_cpy a (fun _ => none) 0 0 cap))))))) q (.inr (0, [.int mo, .ref u.1, .int n]))) := by
  refine pz_met (cc := prog_27_method_6_code) (maxL := 4) (ret := (some (.array (.object "java/lang/Object")))) (by decide) rfl (Nat.le_of_ble_eq_true rfl) ?_
  intro p e s m below meth c ls hx hb hr hml hts hown hlocks hin hsz hK hP hD hS hA hz hl
  have htb : ∀ w ∈ TB, w.before _ s = true := fun w h => hts w (List.mem_cons_of_mem _ h)
  have hl : lv_has ls 4 [(0, .ref q), (1, .int (nI (cap + 1)))] := hl
  refine lv_aload_n hx hb d_AL_grow1_0 rfl (lv_at hl 0 rfl) ?_
  refine pz_get (ci := 0) (C := "java/util/ArrayList") (T := T_AL) (N := 3) hx hb htb in_AL hown hK hP hq hf rfl 1 (by decide) (htb _ tw_49) (fun _ h9 => h9) rfl d_AL_grow1_1 ?_
  refine pz_alen hx hb hK hP 2 hd hfd rfl d_AL_grow1_4 ?_
  refine lv_istore_n (lv' := [(2, .int (nI cap)), (0, .ref q), (1, .int (nI (cap + 1)))]) hx hb d_AL_grow1_5 rfl hl (by decide) rfl (fun ls hl => ?_)
  refine lv_iload_n hx hb d_AL_grow1_6 rfl (lv_at hl 0 rfl) ?_
  refine lv_if_gt (tgt := 20) hx hb d_AL_grow1_7 (by decide) (fun c_1 => ?_) (fun c_1 => ?_)
  · refine lv_iload_n hx hb d_AL_grow1_20 rfl (lv_at hl 0 rfl) ?_
    refine lv_iload_n hx hb d_AL_grow1_21 rfl (lv_at hl 2 rfl) ?_
    refine lv_iload_n hx hb d_AL_grow1_22 rfl (lv_at hl 0 rfl) ?_
    refine lv_isub hx hb d_AL_grow1_23 ?_
    refine lv_iload_n hx hb d_AL_grow1_24 rfl (lv_at hl 0 rfl) ?_
    refine lv_iconst (v := 1) hx hb d_AL_grow1_25 (by decide) ?_
    refine lv_ishr hx hb d_AL_grow1_26 ?_
    refine vp_callSi (va_Run.run (va_runS (As := [.int (nI cap), .int (nI (cap + 1) - nI cap), .int (nI cap >>> ((1 : Int32) &&& 31))]) (rest := []) ⟨hx, hb, hml, hown, hts⟩ (c_AS_newLength l (nI cap) (nI (cap + 1) - nI cap) (nI cap >>> ((1 : Int32) &&& 31)) (gr_len h1 h2).2.1 (gr_len h1 h2).2.2) (va_cwS 3 hts (tb_SS tw_336 tw_337 tw_16 tw_338) rfl rfl rfl (by decide +kernel) ⟨(Nat.le_of_ble_eq_true rfl), (Nat.le_of_ble_eq_true rfl)⟩) pz_preP rfl rfl hl.1 rfl (lv_room (Nat.le_of_ble_eq_true rfl)) d_AL_grow1_27 ⟨(Nat.le_of_ble_eq_true rfl), (by show 0 + 0 ≤ (cap + cap / 2); omega)⟩)) (fun r5 hw => ?_)
    have hw : r5 = nI (cap + cap / 2) := hw.trans (gr_len h1 h2).1
    subst hw
    refine lv_istore_n (lv' := [(3, .int (nI (cap + cap / 2))), (2, .int (nI cap)), (0, .ref q), (1, .int (nI (cap + 1)))]) hx hb d_AL_grow1_30 rfl hl (by decide) rfl (fun ls hl => ?_)
    refine lv_aload_n hx hb d_AL_grow1_31 rfl (lv_at hl 2 rfl) ?_
    refine lv_aload_n hx hb d_AL_grow1_32 rfl (lv_at hl 2 rfl) ?_
    refine pz_get (ci := 0) (C := "java/util/ArrayList") (T := T_AL) (N := 3) hx hb htb in_AL hown hK hP hq hf rfl 1 (by decide) (htb _ tw_49) (fun _ h9 => h9) rfl d_AL_grow1_33 ?_
    refine lv_iload_n hx hb d_AL_grow1_36 rfl (lv_at hl 0 rfl) ?_
    refine pz_cr (va_runS (As := [.ref d, .int (nI (cap + cap / 2))]) (rest := [.ref q]) ⟨hx, hb, hml, hown, hts⟩ (c_AR_copyOf0 l G L f _ d cap (cap + cap / 2) a hd hfd (by omega) (by omega) hel) (va_cwS 2 hts (tb_SS tw_346 tw_347 tw_18 tw_348) rfl rfl rfl (by decide +kernel) ⟨(Nat.le_of_ble_eq_true rfl), (Nat.le_of_ble_eq_true rfl)⟩) (pz_pre (zz_ok _ _ _) hK hP hD hS hA hz) rfl rfl hl.1 rfl (lv_room (Nat.le_of_ble_eq_true rfl)) d_AL_grow1_37 ⟨(Nat.le_of_ble_eq_true rfl), (by show 0 + (cap + cap / 2) ≤ (cap + cap / 2); omega)⟩) hP hD hS hA (fun r9 L3 f2 H locs hw hP hD hS => ?_)
    obtain ⟨hw1, hw2, hw3⟩ := hw
    have hnr9 : r9 ∉ L := hw1
    have eL3 : L3 = L ++ [r9] := hw2
    have ef2 : f2 = va_up f r9 (.inl (cO G, (cap + cap / 2), .inr (.inr (.inr (.inr (va_cpy a (fun _ => none) 0 0 cap)))))) := hw3
    subst L3
    refine lv_dup_x1 hx hb d_AL_grow1_40 rfl rfl ?_
    have h_4 : f2 q = .inr (0, [.int mo, .ref d, .int n]) := by rw [ef2, va_up_ne _ _ (Ne.symm (pz_nef hnr9 hq))]; exact hf
    refine pz_put (ci := 0) (v := .ref r9) (ty := .array (.object "java/lang/Object")) (C := "java/util/ArrayList") (T := T_AL) (N := 3) hx hb htb in_AL ty_AL to_AL nm_AL hown hK hP hD hS (List.mem_append_left _ hq) h_4 rfl 1 (by decide) (htb _ tw_49) (fun _ h9 => h9) rfl rfl rfl rfl (Nat.le_of_ble_eq_true rfl) d_AL_grow1_41 (fun f5 H locs ef5 hP hD hS => ?_)
    have ef5 : f5 = va_up f2 q (.inr (0, [.int mo, .ref r9, .int n])) := ef5
    exact pz_aret hx hb hr (Or.inr ⟨_, rfl⟩) hlocks hK hP hD hS (Nat.le_of_ble_eq_true rfl) (by show 0 + (cap + cap / 2) ≤ (cap + cap / 2); omega) ⟨hnr9, rfl, by rw [ef5, ef2]⟩ d_AL_grow1_44
  · exact absurd (show nI 0 < nI cap from nI_lt (by omega) (by omega)) c_1
set_option maxHeartbeats 4000000 in
set_option maxRecDepth 100000 in
theorem c_grow_first (l : Launch) (G : gG) (L : List Nat) (f : Nat → va_E) (sz : Nat) (q : Nat) (mo : Int32) (hq : q ∈ L) (hf : f q = .inr (0, [.int mo, .ref G.2.2.1, .int 0])) : mR l y_AL_grow0 w_AL_grow0 ({ frames := 4, cells := 1, slots := 10, locals := 107 }) G L f sz [.ref q] 1 10 (fun u => u.1 ∉ L ∧ u.2.1 = L ++ [u.1] ∧ u.2.2 = va_up (va_up f u.1 (.inl (cO G, 10, .inr (.inr (.inr (.inr (fun _ => none))))))) q (.inr (0, [.int mo, .ref u.1, .int 0]))) := by
  refine pz_met (cc := prog_27_method_7_code) (maxL := 1) (ret := (some (.array (.object "java/lang/Object")))) (by decide) rfl (Nat.le_of_ble_eq_true rfl) ?_
  intro p e s m below meth c ls hx hb hr hml hts hown hlocks hin hsz hK hP hD hS hA hz hl
  have htb : ∀ w ∈ TB, w.before _ s = true := fun w h => hts w (List.mem_cons_of_mem _ h)
  have hl : lv_has ls 1 [(0, .ref q)] := hl
  refine lv_aload_n hx hb d_AL_grow0_0 rfl (lv_at hl 0 rfl) ?_
  refine lv_aload_n hx hb d_AL_grow0_1 rfl (lv_at hl 0 rfl) ?_
  refine pz_get (ci := 0) (C := "java/util/ArrayList") (T := T_AL) (N := 3) hx hb htb in_AL hown hK hP hq hf rfl 2 (by decide) (htb _ tw_50) (fun _ h9 => h9) rfl d_AL_grow0_2 ?_
  refine lv_iconst (v := 1) hx hb d_AL_grow0_5 (by decide) ?_
  refine lv_iadd hx hb d_AL_grow0_6 ?_
  refine lv_topi (fun x1 ex1 => ?_)
  have ex1 : x1 = nI 1 := ex1.trans (by decide)
  subst ex1
  refine pz_cr (va_runV (As := [.int (nI 1)]) (rest := []) ⟨hx, hb, hml, hown, hts⟩ (c_growI_first l G L f _ q mo 0 hq hf) (cwV 1 hts (tb_V tw_332 tw_334 tp_5 tw_4 tw_335) rfl rfl rfl (by decide +kernel) ⟨(Nat.le_of_ble_eq_true rfl), (Nat.le_of_ble_eq_true rfl)⟩) (pz_preV (zz_ok _ _ _) hK hP hD hS hA hz (ci := 0) rfl rfl hq hf) rfl rfl hl.1 rfl (lv_room (Nat.le_of_ble_eq_true rfl)) d_AL_grow0_7 ⟨(Nat.le_of_ble_eq_true rfl), (Nat.le_of_ble_eq_true rfl)⟩) hP hD hS hA (fun r9 L3 f2 H locs hw hP hD hS => ?_)
  exact pz_aret hx hb hr (Or.inr ⟨_, rfl⟩) hlocks hK hP hD hS (Nat.le_of_ble_eq_true rfl) (Nat.le_of_ble_eq_true rfl) hw d_AL_grow0_10
set_option maxHeartbeats 4000000 in
set_option maxRecDepth 100000 in
theorem c_grow_full (l : Launch) (G : gG) (L : List Nat) (f : Nat → va_E) (sz : Nat) (q d cap : Nat) (mo : Int32) (a : Nat → Option Nat) (hq : q ∈ L) (hf : f q = .inr (0, [.int mo, .ref d, .int (nI cap)])) (hd : d ∈ L) (hfd : f d = .inl (cO G, cap, .inr (.inr (.inr (.inr a))))) (h1 : 10 ≤ cap) (h2 : cap ≤ 600) (hel : ∀ i, i < cap → ∀ y, a i = some y → elOK L f y) : mR l y_AL_grow0 w_AL_grow0 ({ frames := 4, cells := 1, slots := (cap + cap / 2), locals := 107 }) G L f sz [.ref q] 1 (cap + cap / 2) (fun u => u.1 ∉ L ∧ u.2.1 = L ++ [u.1] ∧ u.2.2 = va_up (va_up f u.1 (.inl (cO G, (cap + cap / 2), .inr (.inr (.inr (.inr (va_cpy a (fun _ => none) 0 0 cap))))))) q (.inr (0, [.int mo, .ref u.1, .int (nI cap)]))) := by
  refine pz_met (cc := prog_27_method_7_code) (maxL := 1) (ret := (some (.array (.object "java/lang/Object")))) (by decide) rfl (Nat.le_of_ble_eq_true rfl) ?_
  intro p e s m below meth c ls hx hb hr hml hts hown hlocks hin hsz hK hP hD hS hA hz hl
  have htb : ∀ w ∈ TB, w.before _ s = true := fun w h => hts w (List.mem_cons_of_mem _ h)
  have hl : lv_has ls 1 [(0, .ref q)] := hl
  refine lv_aload_n hx hb d_AL_grow0_0 rfl (lv_at hl 0 rfl) ?_
  refine lv_aload_n hx hb d_AL_grow0_1 rfl (lv_at hl 0 rfl) ?_
  refine pz_get (ci := 0) (C := "java/util/ArrayList") (T := T_AL) (N := 3) hx hb htb in_AL hown hK hP hq hf rfl 2 (by decide) (htb _ tw_50) (fun _ h9 => h9) rfl d_AL_grow0_2 ?_
  refine lv_iconst (v := 1) hx hb d_AL_grow0_5 (by decide) ?_
  refine lv_iadd hx hb d_AL_grow0_6 ?_
  refine lv_topi (fun x1 ex1 => ?_)
  have ex1 : x1 = nI (cap + 1) := ex1.trans (nI_1 cap)
  subst ex1
  refine pz_cr (va_runV (As := [.int (nI (cap + 1))]) (rest := []) ⟨hx, hb, hml, hown, hts⟩ (c_growI_full l G L f _ q d cap mo (nI cap) a hq hf hd hfd h1 h2 hel) (cwV 1 hts (tb_V tw_332 tw_334 tp_5 tw_4 tw_335) rfl rfl rfl (by decide +kernel) ⟨(Nat.le_of_ble_eq_true rfl), (Nat.le_of_ble_eq_true rfl)⟩) (pz_preV (zz_ok _ _ _) hK hP hD hS hA hz (ci := 0) rfl rfl hq hf) rfl rfl hl.1 rfl (lv_room (Nat.le_of_ble_eq_true rfl)) d_AL_grow0_7 ⟨(Nat.le_of_ble_eq_true rfl), (by show 0 + (cap + cap / 2) ≤ (cap + cap / 2); omega)⟩) hP hD hS hA (fun r9 L3 f2 H locs hw hP hD hS => ?_)
  exact pz_aret hx hb hr (Or.inr ⟨_, rfl⟩) hlocks hK hP hD hS (Nat.le_of_ble_eq_true rfl) (by show 0 + (cap + cap / 2) ≤ (cap + cap / 2); omega) hw d_AL_grow0_10
set_option maxHeartbeats 4000000 in
set_option maxRecDepth 100000 in
theorem c_add1_room (l : Launch) (G : gG) (L : List Nat) (f : Nat → va_E) (sz : Nat) (q d cap n y : Nat) (mo : Int32) (a : Nat → Option Nat) (hq : q ∈ L) (hf : f q = .inr (0, [.int mo, .ref d, .int (nI n)])) (hd : d ∈ L) (hfd : f d = .inl (cO G, cap, .inr (.inr (.inr (.inr a))))) (h1 : n < cap) (h2 : cap ≤ 1000) (he : elOK L f y) : mV l y_AL_add1 w_AL_add1 ({ frames := 5, cells := 0, slots := 0, locals := 127 }) G L f sz [.ref q, .ref y, .ref d, .int (nI n)] 0 0 (fun u => u = (L, va_up (va_up f d (.inl (cO G, cap, .inr (.inr (.inr (.inr (va_up a n (some y)))))))) q (.inr (0, [.int mo, .ref d, .int (nI (n + 1))])))) := by
  refine pz_met (cc := prog_27_method_24_code) (maxL := 4) (ret := none) (by decide) rfl (Nat.le_of_ble_eq_true rfl) ?_
  intro p e s m below meth c ls hx hb hr hml hts hown hlocks hin hsz hK hP hD hS hA hz hl
  have htb : ∀ w ∈ TB, w.before _ s = true := fun w h => hts w (List.mem_cons_of_mem _ h)
  have hl : lv_has ls 4 [(0, .ref q), (1, .ref y), (2, .ref d), (3, .int (nI n))] := hl
  refine lv_iload_n hx hb d_AL_add1_0 rfl (lv_at hl 3 rfl) ?_
  refine lv_aload_n hx hb d_AL_add1_1 rfl (lv_at hl 2 rfl) ?_
  refine pz_alen hx hb hK hP 2 hd hfd rfl d_AL_add1_2 ?_
  refine lv_icmp_ne (tgt := 11) hx hb d_AL_add1_3 (by decide) (fun c_1 => ?_) (fun c_1 => ?_)
  · refine lv_aload_n hx hb d_AL_add1_11 rfl (lv_at hl 2 rfl) ?_
    refine lv_iload_n hx hb d_AL_add1_12 rfl (lv_at hl 3 rfl) ?_
    refine lv_aload_n hx hb d_AL_add1_13 rfl (lv_at hl 1 rfl) ?_
    have hin9 : vp_in (nI n) cap := vp_in_nI h1 (by omega)
    refine pz_astq hx hb hK hP hD hS 2 hd hfd rfl (el_any hz.1 hK hP he) hin9 d_AL_add1_14 (fun f2 H locs ef2 hP hD hS => ?_)
    rw [nI_clamp (by omega)] at ef2
    refine lv_aload_n hx hb d_AL_add1_15 rfl (lv_at hl 0 rfl) ?_
    refine lv_iload_n hx hb d_AL_add1_16 rfl (lv_at hl 3 rfl) ?_
    refine lv_iconst (v := 1) hx hb d_AL_add1_17 (by decide) ?_
    refine lv_iadd hx hb d_AL_add1_18 ?_
    refine lv_topi (fun x3 ex3 => ?_)
    have ex3 : x3 = nI (n + 1) := ex3.trans (nI_1 n)
    subst ex3
    have h_4 : f2 q = .inr (0, [.int mo, .ref d, .int (nI n)]) := by rw [ef2, va_up_ne _ _ (Ne.symm (pz_nea hfd hf))]; exact hf
    refine pz_put (ci := 0) (v := .int (nI (n + 1))) (ty := .int) (C := "java/util/ArrayList") (T := T_AL) (N := 3) hx hb htb in_AL ty_AL to_AL nm_AL hown hK hP hD hS hq h_4 rfl 2 (by decide) (htb _ tw_50) (fun _ h9 => h9) rfl rfl rfl rfl (Nat.le_of_ble_eq_true rfl) d_AL_add1_19 (fun f5 H locs ef5 hP hD hS => ?_)
    have ef5 : f5 = va_up f2 q (.inr (0, [.int mo, .ref d, .int (nI (n + 1))])) := ef5
    exact pz_vret hx hb hr hlocks hK hP hD hS (Nat.le_of_ble_eq_true rfl) (Nat.le_of_ble_eq_true rfl) (by rw [ef5, ef2]) d_AL_add1_22
  · exact absurd ((nI_eq (by omega) (by omega)).mp c_1) (by omega)
set_option maxHeartbeats 4000000 in
set_option maxRecDepth 100000 in
theorem c_add1_first (l : Launch) (G : gG) (L : List Nat) (f : Nat → va_E) (sz : Nat) (q y : Nat) (mo : Int32) (hq : q ∈ L) (hf : f q = .inr (0, [.int mo, .ref G.2.2.1, .int 0])) (he : elOK L f y) : mV l y_AL_add1 w_AL_add1 ({ frames := 5, cells := 1, slots := 10, locals := 127 }) G L f sz [.ref q, .ref y, .ref G.2.2.1, .int 0] 1 10 (fun u => ∃ r9, r9 ∉ L ∧ u = (L ++ [r9], va_up (va_up f r9 (.inl (cO G, 10, .inr (.inr (.inr (.inr (va_up (fun _ => none) 0 (some y)))))))) q (.inr (0, [.int mo, .ref r9, .int (nI 1)])))) := by
  refine pz_met (cc := prog_27_method_24_code) (maxL := 4) (ret := none) (by decide) rfl (Nat.le_of_ble_eq_true rfl) ?_
  intro p e s m below meth c ls hx hb hr hml hts hown hlocks hin hsz hK hP hD hS hA hz hl
  have htb : ∀ w ∈ TB, w.before _ s = true := fun w h => hts w (List.mem_cons_of_mem _ h)
  have hl : lv_has ls 4 [(0, .ref q), (1, .ref y), (2, .ref G.2.2.1), (3, .int 0)] := hl
  refine lv_iload_n hx hb d_AL_add1_0 rfl (lv_at hl 3 rfl) ?_
  refine lv_aload_n hx hb d_AL_add1_1 rfl (lv_at hl 2 rfl) ?_
  refine va_tlen hx hb hz.2.2.2.2.2.2.1 hS (v := 0) rfl d_AL_add1_2 ?_
  refine lv_icmp_ne (tgt := 11) hx hb d_AL_add1_3 (by decide) (fun c0 => absurd c0 (by decide)) (fun _ => ?_)
  refine lv_aload_n hx hb d_AL_add1_6 rfl (lv_at hl 0 rfl) ?_
  refine pz_cr (va_runV (As := []) (rest := []) ⟨hx, hb, hml, hown, hts⟩ (c_grow_first l G L f _ q mo hq hf) (cwV 0 hts (tb_V tw_328 tw_330 tp_4 tw_4 tw_331) rfl rfl rfl (by decide +kernel) ⟨(Nat.le_of_ble_eq_true rfl), (Nat.le_of_ble_eq_true rfl)⟩) (pz_preV (zz_ok _ _ _) hK hP hD hS hA hz (ci := 0) rfl rfl hq hf) rfl rfl hl.1 rfl (lv_room (Nat.le_of_ble_eq_true rfl)) d_AL_add1_7 ⟨(Nat.le_of_ble_eq_true rfl), (Nat.le_of_ble_eq_true rfl)⟩) hP hD hS hA (fun r9 L2 f1 H locs hw hP hD hS => ?_)
  obtain ⟨hw1, hw2, hw3⟩ := hw
  have hnr9 : r9 ∉ L := hw1
  have eL2 : L2 = L ++ [r9] := hw2
  obtain ⟨g9, eg9⟩ : ∃ y, y = va_up f r9 (.inl (cO G, 10, .inr (.inr (.inr (.inr (fun _ => none)))))) := ⟨_, rfl⟩
  have ef1 : f1 = va_up g9 q (.inr (0, [.int mo, .ref r9, .int 0])) := hw3.trans (by rw [eg9])
  subst L2
  refine lv_astore_n (lv' := [(2, .ref r9), (0, .ref q), (1, .ref y), (3, .int 0)]) hx hb d_AL_add1_10 rfl hl (by decide) rfl (fun ls hl => ?_)
  refine lv_aload_n hx hb d_AL_add1_11 rfl (lv_at hl 0 rfl) ?_
  refine lv_iload_n hx hb d_AL_add1_12 rfl (lv_at hl 3 rfl) ?_
  refine lv_aload_n hx hb d_AL_add1_13 rfl (lv_at hl 2 rfl) ?_
  have h_4 : g9 r9 = .inl (cO G, 10, .inr (.inr (.inr (.inr (fun _ => none))))) := by rw [eg9]; exact va_up_self _ _ _
  have h_3 : f1 r9 = .inl (cO G, 10, .inr (.inr (.inr (.inr (fun _ => none))))) := by rw [ef1, va_up_ne _ _ (pz_nef hnr9 hq)]; exact h_4
  have hin9 : vp_in 0 10 := vp_in_nI (n := 0) (N := 10) (by decide) (by decide)
  refine pz_astq hx hb hK hP hD hS 2 (l_in_new _ _) h_3 rfl (el_any hz.1 hK hP (el_keep (el_grow he hnr9 eg9) ef1 (by rw [eg9, va_up_ne _ _ (Ne.symm (pz_nef hnr9 hq))]; exact hf))) hin9 d_AL_add1_14 (fun f5 H locs ef5 hP hD hS => ?_)
  have ef5 : f5 = va_up f1 r9 (.inl (cO G, 10, .inr (.inr (.inr (.inr (va_up (fun _ => none) 0 (some y))))))) := ef5
  refine lv_aload_n hx hb d_AL_add1_15 rfl (lv_at hl 1 rfl) ?_
  refine lv_iload_n hx hb d_AL_add1_16 rfl (lv_at hl 3 rfl) ?_
  refine lv_iconst (v := 1) hx hb d_AL_add1_17 (by decide) ?_
  refine lv_iadd hx hb d_AL_add1_18 ?_
  refine lv_topi (fun x6 ex6 => ?_)
  have ex6 : x6 = nI 1 := ex6.trans (by decide)
  subst ex6
  have h_8 : f1 q = .inr (0, [.int mo, .ref r9, .int 0]) := by rw [ef1]; exact va_up_self _ _ _
  have h_7 : f5 q = .inr (0, [.int mo, .ref r9, .int 0]) := by rw [ef5, va_up_ne _ _ (Ne.symm (pz_nef hnr9 hq))]; exact h_8
  refine pz_put (ci := 0) (v := .int (nI 1)) (ty := .int) (C := "java/util/ArrayList") (T := T_AL) (N := 3) hx hb htb in_AL ty_AL to_AL nm_AL hown hK hP hD hS (List.mem_append_left _ hq) h_7 rfl 2 (by decide) (htb _ tw_50) (fun _ h9 => h9) rfl rfl rfl rfl (Nat.le_of_ble_eq_true rfl) d_AL_add1_19 (fun f9 H locs ef9 hP hD hS => ?_)
  have ef9 : f9 = va_up f5 q (.inr (0, [.int mo, .ref r9, .int (nI 1)])) := ef9
  exact pz_vret hx hb hr hlocks hK hP hD hS (Nat.le_of_ble_eq_true rfl) (Nat.le_of_ble_eq_true rfl) ⟨r9, hnr9, by rw [ef9, ef5, ef1, eg9, pz_up_comm _ _ _ (Ne.symm (pz_nef hnr9 hq)), bx_uu, bx_uu]⟩ d_AL_add1_22
set_option maxHeartbeats 4000000 in
set_option maxRecDepth 100000 in
theorem c_add1_full (l : Launch) (G : gG) (L : List Nat) (f : Nat → va_E) (sz : Nat) (q d cap y : Nat) (mo : Int32) (a : Nat → Option Nat) (hq : q ∈ L) (hf : f q = .inr (0, [.int mo, .ref d, .int (nI cap)])) (hd : d ∈ L) (hfd : f d = .inl (cO G, cap, .inr (.inr (.inr (.inr a))))) (h1 : 10 ≤ cap) (h2 : cap ≤ 600) (hel : ∀ i, i < cap → ∀ y, a i = some y → elOK L f y) (he : elOK L f y) : mV l y_AL_add1 w_AL_add1 ({ frames := 5, cells := 1, slots := (cap + cap / 2), locals := 127 }) G L f sz [.ref q, .ref y, .ref d, .int (nI cap)] 1 (cap + cap / 2) (fun u => ∃ r9, r9 ∉ L ∧ u = (L ++ [r9], va_up (va_up f r9 (.inl (cO G, (cap + cap / 2), .inr (.inr (.inr (.inr (va_up (va_cpy a (fun _ => none) 0 0 cap) cap (some y)))))))) q (.inr (0, [.int mo, .ref r9, .int (nI (cap + 1))])))) := by
  refine pz_met (cc := prog_27_method_24_code) (maxL := 4) (ret := none) (by decide) rfl (Nat.le_of_ble_eq_true rfl) ?_
  intro p e s m below meth c ls hx hb hr hml hts hown hlocks hin hsz hK hP hD hS hA hz hl
  have htb : ∀ w ∈ TB, w.before _ s = true := fun w h => hts w (List.mem_cons_of_mem _ h)
  have hl : lv_has ls 4 [(0, .ref q), (1, .ref y), (2, .ref d), (3, .int (nI cap))] := hl
  refine lv_iload_n hx hb d_AL_add1_0 rfl (lv_at hl 3 rfl) ?_
  refine lv_aload_n hx hb d_AL_add1_1 rfl (lv_at hl 2 rfl) ?_
  refine pz_alen hx hb hK hP 2 hd hfd rfl d_AL_add1_2 ?_
  refine lv_icmp_ne (tgt := 11) hx hb d_AL_add1_3 (by decide) (fun c_1 => ?_) (fun c_1 => ?_)
  · exact absurd rfl c_1
  · refine lv_aload_n hx hb d_AL_add1_6 rfl (lv_at hl 0 rfl) ?_
    refine pz_cr (va_runV (As := []) (rest := []) ⟨hx, hb, hml, hown, hts⟩ (c_grow_full l G L f _ q d cap mo a hq hf hd hfd h1 h2 hel) (cwV 0 hts (tb_V tw_328 tw_330 tp_4 tw_4 tw_331) rfl rfl rfl (by decide +kernel) ⟨(Nat.le_of_ble_eq_true rfl), (Nat.le_of_ble_eq_true rfl)⟩) (pz_preV (zz_ok _ _ _) hK hP hD hS hA hz (ci := 0) rfl rfl hq hf) rfl rfl hl.1 rfl (lv_room (Nat.le_of_ble_eq_true rfl)) d_AL_add1_7 ⟨(Nat.le_of_ble_eq_true rfl), (by show 0 + (cap + cap / 2) ≤ (cap + cap / 2); omega)⟩) hP hD hS hA (fun r9 L3 f2 H locs hw hP hD hS => ?_)
    obtain ⟨hw1, hw2, hw3⟩ := hw
    have hnr9 : r9 ∉ L := hw1
    have eL3 : L3 = L ++ [r9] := hw2
    obtain ⟨g9, eg9⟩ : ∃ y, y = va_up f r9 (.inl (cO G, (cap + cap / 2), .inr (.inr (.inr (.inr (va_cpy a (fun _ => none) 0 0 cap)))))) := ⟨_, rfl⟩
    have ef2 : f2 = va_up g9 q (.inr (0, [.int mo, .ref r9, .int (nI cap)])) := hw3.trans (by rw [eg9])
    subst L3
    refine lv_astore_n (lv' := [(2, .ref r9), (0, .ref q), (1, .ref y), (3, .int (nI cap))]) hx hb d_AL_add1_10 rfl hl (by decide) rfl (fun ls hl => ?_)
    refine lv_aload_n hx hb d_AL_add1_11 rfl (lv_at hl 0 rfl) ?_
    refine lv_iload_n hx hb d_AL_add1_12 rfl (lv_at hl 3 rfl) ?_
    refine lv_aload_n hx hb d_AL_add1_13 rfl (lv_at hl 2 rfl) ?_
    have h_5 : g9 r9 = .inl (cO G, (cap + cap / 2), .inr (.inr (.inr (.inr (va_cpy a (fun _ => none) 0 0 cap))))) := by rw [eg9]; exact va_up_self _ _ _
    have h_4 : f2 r9 = .inl (cO G, (cap + cap / 2), .inr (.inr (.inr (.inr (va_cpy a (fun _ => none) 0 0 cap))))) := by rw [ef2, va_up_ne _ _ (pz_nef hnr9 hq)]; exact h_5
    have hin9 : vp_in (nI cap) (cap + cap / 2) := vp_in_nI (by omega) (by omega)
    refine pz_astq hx hb hK hP hD hS 2 (l_in_new _ _) h_4 rfl (el_any hz.1 hK hP (el_keep (el_grow he hnr9 eg9) ef2 (by rw [eg9, va_up_ne _ _ (Ne.symm (pz_nef hnr9 hq))]; exact hf))) hin9 d_AL_add1_14 (fun f6 H locs ef6 hP hD hS => ?_)
    rw [nI_clamp (by omega)] at ef6
    refine lv_aload_n hx hb d_AL_add1_15 rfl (lv_at hl 1 rfl) ?_
    refine lv_iload_n hx hb d_AL_add1_16 rfl (lv_at hl 3 rfl) ?_
    refine lv_iconst (v := 1) hx hb d_AL_add1_17 (by decide) ?_
    refine lv_iadd hx hb d_AL_add1_18 ?_
    refine lv_topi (fun x7 ex7 => ?_)
    have ex7 : x7 = nI (cap + 1) := ex7.trans (nI_1 cap)
    subst ex7
    have h_9 : f2 q = .inr (0, [.int mo, .ref r9, .int (nI cap)]) := by rw [ef2]; exact va_up_self _ _ _
    have h_8 : f6 q = .inr (0, [.int mo, .ref r9, .int (nI cap)]) := by rw [ef6, va_up_ne _ _ (Ne.symm (pz_nef hnr9 hq))]; exact h_9
    refine pz_put (ci := 0) (v := .int (nI (cap + 1))) (ty := .int) (C := "java/util/ArrayList") (T := T_AL) (N := 3) hx hb htb in_AL ty_AL to_AL nm_AL hown hK hP hD hS (List.mem_append_left _ hq) h_8 rfl 2 (by decide) (htb _ tw_50) (fun _ h9 => h9) rfl rfl rfl rfl (Nat.le_of_ble_eq_true rfl) d_AL_add1_19 (fun f10 H locs ef10 hP hD hS => ?_)
    have ef10 : f10 = va_up f6 q (.inr (0, [.int mo, .ref r9, .int (nI (cap + 1))])) := ef10
    exact pz_vret hx hb hr hlocks hK hP hD hS (Nat.le_of_ble_eq_true rfl) (by show 0 + (cap + cap / 2) ≤ (cap + cap / 2); omega) ⟨r9, hnr9, by rw [ef10, ef6, ef2, eg9, pz_up_comm _ _ _ (Ne.symm (pz_nef hnr9 hq)), bx_uu, bx_uu]⟩ d_AL_add1_22
set_option maxHeartbeats 4000000 in
set_option maxRecDepth 100000 in
theorem c_add0_room (l : Launch) (G : gG) (L : List Nat) (f : Nat → va_E) (sz : Nat) (q d cap n y : Nat) (mo : Int32) (a : Nat → Option Nat) (hq : q ∈ L) (hf : f q = .inr (0, [.int mo, .ref d, .int (nI n)])) (hd : d ∈ L) (hfd : f d = .inl (cO G, cap, .inr (.inr (.inr (.inr a))))) (h1 : n < cap) (h2 : cap ≤ 1000) (he : elOK L f y) : mI l y_AL_add0 w_AL_add0 ({ frames := 6, cells := 1, slots := 900, locals := 150 }) G L f sz [.ref q, .ref y] 1 900 (fun r u => r = 1 ∧ u = (L, va_up (va_up f d (.inl (cO G, cap, .inr (.inr (.inr (.inr (va_up a n (some y)))))))) q (.inr (0, [.int (mo + 1), .ref d, .int (nI (n + 1))])))) := by
  refine pz_met (cc := prog_27_method_25_code) (maxL := 2) (ret := (some .boolean)) (by decide) rfl (Nat.le_of_ble_eq_true rfl) ?_
  intro p e s m below meth c ls hx hb hr hml hts hown hlocks hin hsz hK hP hD hS hA hz hl
  have htb : ∀ w ∈ TB, w.before _ s = true := fun w h => hts w (List.mem_cons_of_mem _ h)
  have hl : lv_has ls 2 [(0, .ref q), (1, .ref y)] := hl
  refine lv_aload_n hx hb d_AL_add0_0 rfl (lv_at hl 0 rfl) ?_
  refine lv_dup hx hb d_AL_add0_1 rfl ?_
  refine pz_get (ci := 0) (C := "java/util/ArrayList") (T := T_AL) (N := 3) hx hb htb in_AL hown hK hP hq hf rfl 0 (by decide) (htb _ tw_52) (fun x h9 => u_same (htb _ tw_53) x h9) rfl d_AL_add0_2 ?_
  refine lv_iconst (v := 1) hx hb d_AL_add0_5 (by decide) ?_
  refine lv_iadd hx hb d_AL_add0_6 ?_
  refine pz_put (ci := 0) (v := .int (mo + 1)) (ty := .int) (C := "java/util/ArrayList") (T := T_AL) (N := 3) hx hb htb in_AL ty_AL to_AL nm_AL hown hK hP hD hS hq hf rfl 0 (by decide) (htb _ tw_52) (fun x h9 => u_same (htb _ tw_53) x h9) rfl rfl rfl rfl (Nat.le_of_ble_eq_true rfl) d_AL_add0_7 (fun f1 H locs ef1 hP hD hS => ?_)
  have ef1 : f1 = va_up f q (.inr (0, [.int (mo + 1), .ref d, .int (nI n)])) := ef1
  refine lv_aload_n hx hb d_AL_add0_10 rfl (lv_at hl 0 rfl) ?_
  refine lv_aload_n hx hb d_AL_add0_11 rfl (lv_at hl 1 rfl) ?_
  refine lv_aload_n hx hb d_AL_add0_12 rfl (lv_at hl 0 rfl) ?_
  have h_2 : f1 q = .inr (0, [.int (mo + 1), .ref d, .int (nI n)]) := by rw [ef1]; exact va_up_self _ _ _
  refine pz_get (ci := 0) (C := "java/util/ArrayList") (T := T_AL) (N := 3) hx hb htb in_AL hown hK hP hq h_2 rfl 1 (by decide) (htb _ tw_49) (fun _ h9 => h9) rfl d_AL_add0_13 ?_
  refine lv_aload_n hx hb d_AL_add0_16 rfl (lv_at hl 0 rfl) ?_
  refine pz_get (ci := 0) (C := "java/util/ArrayList") (T := T_AL) (N := 3) hx hb htb in_AL hown hK hP hq h_2 rfl 2 (by decide) (htb _ tw_50) (fun _ h9 => h9) rfl d_AL_add0_17 ?_
  have h_3 : f1 d = .inl (cO G, cap, .inr (.inr (.inr (.inr a)))) := by rw [ef1, va_up_ne _ _ (pz_nea hfd hf)]; exact hfd
  refine pz_cv (va_runV (As := [.ref y, .ref d, .int (nI n)]) (rest := []) ⟨hx, hb, hml, hown, hts⟩ (c_add1_room l G L f1 _ q d cap n y (mo + 1) a hq h_2 hd h_3 h1 h2 (el_keep he ef1 hf)) (cwV 3 hts (tb_V tw_324 tw_326 tp_3 tw_4 tw_327) rfl rfl rfl (by decide +kernel) ⟨(Nat.le_of_ble_eq_true rfl), (Nat.le_of_ble_eq_true rfl)⟩) (pz_preV (zz_ok _ _ _) hK hP hD hS hA hz (ci := 0) rfl rfl hq h_2) rfl rfl hl.1 rfl (lv_room (Nat.le_of_ble_eq_true rfl)) d_AL_add0_20 ⟨(Nat.le_of_ble_eq_true rfl), (Nat.le_of_ble_eq_true rfl)⟩) hP hD hS hA (fun L5 f4 H locs hw hP hD hS => ?_)
  have ef4 := (Prod.mk.inj hw).2
  have eL5 := (Prod.mk.inj hw).1
  subst L5
  refine lv_iconst (v := 1) hx hb d_AL_add0_23 (by decide) ?_
  exact pz_iret hx hb hr rfl hlocks hK hP hD hS (Nat.le_of_ble_eq_true rfl) (Nat.le_of_ble_eq_true rfl) ⟨rfl, by rw [ef4, ef1, pz_up_comm _ _ _ (Ne.symm (pz_nea hfd hf)), bx_uu]⟩ d_AL_add0_24
set_option maxHeartbeats 4000000 in
set_option maxRecDepth 100000 in
theorem c_add0_first (l : Launch) (G : gG) (L : List Nat) (f : Nat → va_E) (sz : Nat) (q y : Nat) (mo : Int32) (hq : q ∈ L) (hf : f q = .inr (0, [.int mo, .ref G.2.2.1, .int 0])) (he : elOK L f y) : mI l y_AL_add0 w_AL_add0 ({ frames := 6, cells := 1, slots := 900, locals := 150 }) G L f sz [.ref q, .ref y] 1 900 (fun r u => r = 1 ∧ ∃ r9, r9 ∉ L ∧ u = (L ++ [r9], va_up (va_up f r9 (.inl (cO G, 10, .inr (.inr (.inr (.inr (va_up (fun _ => none) 0 (some y)))))))) q (.inr (0, [.int (mo + 1), .ref r9, .int (nI 1)])))) := by
  refine pz_met (cc := prog_27_method_25_code) (maxL := 2) (ret := (some .boolean)) (by decide) rfl (Nat.le_of_ble_eq_true rfl) ?_
  intro p e s m below meth c ls hx hb hr hml hts hown hlocks hin hsz hK hP hD hS hA hz hl
  have htb : ∀ w ∈ TB, w.before _ s = true := fun w h => hts w (List.mem_cons_of_mem _ h)
  have hl : lv_has ls 2 [(0, .ref q), (1, .ref y)] := hl
  refine lv_aload_n hx hb d_AL_add0_0 rfl (lv_at hl 0 rfl) ?_
  refine lv_dup hx hb d_AL_add0_1 rfl ?_
  refine pz_get (ci := 0) (C := "java/util/ArrayList") (T := T_AL) (N := 3) hx hb htb in_AL hown hK hP hq hf rfl 0 (by decide) (htb _ tw_52) (fun x h9 => u_same (htb _ tw_53) x h9) rfl d_AL_add0_2 ?_
  refine lv_iconst (v := 1) hx hb d_AL_add0_5 (by decide) ?_
  refine lv_iadd hx hb d_AL_add0_6 ?_
  refine pz_put (ci := 0) (v := .int (mo + 1)) (ty := .int) (C := "java/util/ArrayList") (T := T_AL) (N := 3) hx hb htb in_AL ty_AL to_AL nm_AL hown hK hP hD hS hq hf rfl 0 (by decide) (htb _ tw_52) (fun x h9 => u_same (htb _ tw_53) x h9) rfl rfl rfl rfl (Nat.le_of_ble_eq_true rfl) d_AL_add0_7 (fun f1 H locs ef1 hP hD hS => ?_)
  have ef1 : f1 = va_up f q (.inr (0, [.int (mo + 1), .ref G.2.2.1, .int 0])) := ef1
  refine lv_aload_n hx hb d_AL_add0_10 rfl (lv_at hl 0 rfl) ?_
  refine lv_aload_n hx hb d_AL_add0_11 rfl (lv_at hl 1 rfl) ?_
  refine lv_aload_n hx hb d_AL_add0_12 rfl (lv_at hl 0 rfl) ?_
  have h_2 : f1 q = .inr (0, [.int (mo + 1), .ref G.2.2.1, .int 0]) := by rw [ef1]; exact va_up_self _ _ _
  refine pz_get (ci := 0) (C := "java/util/ArrayList") (T := T_AL) (N := 3) hx hb htb in_AL hown hK hP hq h_2 rfl 1 (by decide) (htb _ tw_49) (fun _ h9 => h9) rfl d_AL_add0_13 ?_
  refine lv_aload_n hx hb d_AL_add0_16 rfl (lv_at hl 0 rfl) ?_
  refine pz_get (ci := 0) (C := "java/util/ArrayList") (T := T_AL) (N := 3) hx hb htb in_AL hown hK hP hq h_2 rfl 2 (by decide) (htb _ tw_50) (fun _ h9 => h9) rfl d_AL_add0_17 ?_
  refine pz_cv (va_runV (As := [.ref y, .ref G.2.2.1, .int 0]) (rest := []) ⟨hx, hb, hml, hown, hts⟩ (c_add1_first l G L f1 _ q y (mo + 1) hq h_2 (el_keep he ef1 hf)) (cwV 3 hts (tb_V tw_324 tw_326 tp_3 tw_4 tw_327) rfl rfl rfl (by decide +kernel) ⟨(Nat.le_of_ble_eq_true rfl), (Nat.le_of_ble_eq_true rfl)⟩) (pz_preV (zz_ok _ _ _) hK hP hD hS hA hz (ci := 0) rfl rfl hq h_2) rfl rfl hl.1 rfl (lv_room (Nat.le_of_ble_eq_true rfl)) d_AL_add0_20 ⟨(Nat.le_of_ble_eq_true rfl), (Nat.le_of_ble_eq_true rfl)⟩) hP hD hS hA (fun L4 f3 H locs hw hP hD hS => ?_)
  obtain ⟨r9, hn9, hw⟩ := hw
  have ef3 := (Prod.mk.inj hw).2
  have eL4 := (Prod.mk.inj hw).1
  subst L4
  refine lv_iconst (v := 1) hx hb d_AL_add0_23 (by decide) ?_
  exact pz_iret hx hb hr rfl hlocks hK hP hD hS (Nat.le_of_ble_eq_true rfl) (Nat.le_of_ble_eq_true rfl) ⟨rfl, r9, hn9, by rw [ef3, ef1, pz_up_comm _ _ _ (Ne.symm (pz_nef hn9 hq)), bx_uu]⟩ d_AL_add0_24
set_option maxHeartbeats 4000000 in
set_option maxRecDepth 100000 in
theorem c_add0_full (l : Launch) (G : gG) (L : List Nat) (f : Nat → va_E) (sz : Nat) (q d cap y : Nat) (mo : Int32) (a : Nat → Option Nat) (hq : q ∈ L) (hf : f q = .inr (0, [.int mo, .ref d, .int (nI cap)])) (hd : d ∈ L) (hfd : f d = .inl (cO G, cap, .inr (.inr (.inr (.inr a))))) (h1 : 10 ≤ cap) (h2 : cap ≤ 600) (hel : ∀ i, i < cap → ∀ y, a i = some y → elOK L f y) (he : elOK L f y) : mI l y_AL_add0 w_AL_add0 ({ frames := 6, cells := 1, slots := 900, locals := 150 }) G L f sz [.ref q, .ref y] 1 900 (fun r u => r = 1 ∧ ∃ r9, r9 ∉ L ∧ u = (L ++ [r9], va_up (va_up f r9 (.inl (cO G, (cap + cap / 2), .inr (.inr (.inr (.inr (va_up (va_cpy a (fun _ => none) 0 0 cap) cap (some y)))))))) q (.inr (0, [.int (mo + 1), .ref r9, .int (nI (cap + 1))])))) := by
  refine pz_met (cc := prog_27_method_25_code) (maxL := 2) (ret := (some .boolean)) (by decide) rfl (Nat.le_of_ble_eq_true rfl) ?_
  intro p e s m below meth c ls hx hb hr hml hts hown hlocks hin hsz hK hP hD hS hA hz hl
  have htb : ∀ w ∈ TB, w.before _ s = true := fun w h => hts w (List.mem_cons_of_mem _ h)
  have hl : lv_has ls 2 [(0, .ref q), (1, .ref y)] := hl
  refine lv_aload_n hx hb d_AL_add0_0 rfl (lv_at hl 0 rfl) ?_
  refine lv_dup hx hb d_AL_add0_1 rfl ?_
  refine pz_get (ci := 0) (C := "java/util/ArrayList") (T := T_AL) (N := 3) hx hb htb in_AL hown hK hP hq hf rfl 0 (by decide) (htb _ tw_52) (fun x h9 => u_same (htb _ tw_53) x h9) rfl d_AL_add0_2 ?_
  refine lv_iconst (v := 1) hx hb d_AL_add0_5 (by decide) ?_
  refine lv_iadd hx hb d_AL_add0_6 ?_
  refine pz_put (ci := 0) (v := .int (mo + 1)) (ty := .int) (C := "java/util/ArrayList") (T := T_AL) (N := 3) hx hb htb in_AL ty_AL to_AL nm_AL hown hK hP hD hS hq hf rfl 0 (by decide) (htb _ tw_52) (fun x h9 => u_same (htb _ tw_53) x h9) rfl rfl rfl rfl (Nat.le_of_ble_eq_true rfl) d_AL_add0_7 (fun f1 H locs ef1 hP hD hS => ?_)
  have ef1 : f1 = va_up f q (.inr (0, [.int (mo + 1), .ref d, .int (nI cap)])) := ef1
  refine lv_aload_n hx hb d_AL_add0_10 rfl (lv_at hl 0 rfl) ?_
  refine lv_aload_n hx hb d_AL_add0_11 rfl (lv_at hl 1 rfl) ?_
  refine lv_aload_n hx hb d_AL_add0_12 rfl (lv_at hl 0 rfl) ?_
  have h_2 : f1 q = .inr (0, [.int (mo + 1), .ref d, .int (nI cap)]) := by rw [ef1]; exact va_up_self _ _ _
  refine pz_get (ci := 0) (C := "java/util/ArrayList") (T := T_AL) (N := 3) hx hb htb in_AL hown hK hP hq h_2 rfl 1 (by decide) (htb _ tw_49) (fun _ h9 => h9) rfl d_AL_add0_13 ?_
  refine lv_aload_n hx hb d_AL_add0_16 rfl (lv_at hl 0 rfl) ?_
  refine pz_get (ci := 0) (C := "java/util/ArrayList") (T := T_AL) (N := 3) hx hb htb in_AL hown hK hP hq h_2 rfl 2 (by decide) (htb _ tw_50) (fun _ h9 => h9) rfl d_AL_add0_17 ?_
  have h_3 : f1 d = .inl (cO G, cap, .inr (.inr (.inr (.inr a)))) := by rw [ef1, va_up_ne _ _ (pz_nea hfd hf)]; exact hfd
  refine pz_cv (va_runV (As := [.ref y, .ref d, .int (nI cap)]) (rest := []) ⟨hx, hb, hml, hown, hts⟩ (c_add1_full l G L f1 _ q d cap y (mo + 1) a hq h_2 hd h_3 h1 h2 (fun i hi z hz => el_keep (hel i hi z hz) ef1 hf) (el_keep he ef1 hf)) (cwV 3 hts (tb_V tw_324 tw_326 tp_3 tw_4 tw_327) rfl rfl rfl (by decide +kernel) ⟨(Nat.le_of_ble_eq_true rfl), (Nat.le_of_ble_eq_true rfl)⟩) (pz_preV (zz_ok _ _ _) hK hP hD hS hA hz (ci := 0) rfl rfl hq h_2) rfl rfl hl.1 rfl (lv_room (Nat.le_of_ble_eq_true rfl)) d_AL_add0_20 ⟨(Nat.le_of_ble_eq_true rfl), (by show 0 + (cap + cap / 2) ≤ 900; omega)⟩) hP hD hS hA (fun L5 f4 H locs hw hP hD hS => ?_)
  obtain ⟨r9, hn9, hw⟩ := hw
  have ef4 := (Prod.mk.inj hw).2
  have eL5 := (Prod.mk.inj hw).1
  subst L5
  refine lv_iconst (v := 1) hx hb d_AL_add0_23 (by decide) ?_
  exact pz_iret hx hb hr rfl hlocks hK hP hD hS (Nat.le_of_ble_eq_true rfl) (by show 0 + (cap + cap / 2) ≤ 900; omega) ⟨rfl, r9, hn9, by rw [ef4, ef1, pz_up_comm _ _ _ (Ne.symm (pz_nef hn9 hq)), bx_uu]⟩ d_AL_add0_24
