/-! small methods of the class -/
theorem i32_nle {x y : Int32} (h : x < y) : ¬ y ≤ x := by
  rw [Int32.lt_iff_toInt_lt] at h
  rw [Int32.le_iff_toInt_le]
  omega
theorem i32_nlt {x y : Int32} (h : x ≤ y) : ¬ y < x := by
  rw [Int32.le_iff_toInt_le] at h
  rw [Int32.lt_iff_toInt_lt]
  omega
theorem i32_le {x y : Int32} (h : ¬ x < y) : y ≤ x := by
  rw [Int32.lt_iff_toInt_lt] at h
  rw [Int32.le_iff_toInt_le]
  omega
theorem i32_lt {x y : Int32} (h : ¬ x ≤ y) : y < x := by
  rw [Int32.le_iff_toInt_le] at h
  rw [Int32.lt_iff_toInt_lt]
  omega
set_option maxHeartbeats 4000000 in
set_option maxRecDepth 100000 in
/-- Frame(h, t, g) -/
theorem c_FR_init (l : Launch) (G : gG) (L : List Nat) (f : Nat → va_E) (sz : Nat) (q : Nat) (h t g a b d : Int32) (hq : q ∈ L) (hf : f q = .inr (1, [.int a, .int b, .int d])) : mV l y_FR_init w_FR_init ({ frames := 1, cells := 0, slots := 0, locals := 20 }) G L f sz [.ref q, .int h, .int t, .int g] 0 0 (fun u => u = (L, va_up f q (.inr (1, [.int h, .int t, .int g])))) := by
  refine pz_met (cc := prog_4_method_1_code) (maxL := 4) (ret := none) (by decide) rfl (Nat.le_of_ble_eq_true rfl) ?_
  intro p e s m below meth c ls hx hb hr hml hts hown hlocks hin hsz hK hP hD hS hA hz hl
  have htb : ∀ w ∈ TB, w.before _ s = true := fun w h => hts w (List.mem_cons_of_mem _ h)
  have hl : lv_has ls 4 [(0, .ref q), (1, .int h), (2, .int t), (3, .int g)] := hl
  refine lv_aload_n hx hb d_FR_init_0 rfl (lv_at hl 0 rfl) ?_
  refine W.objInit hx hb hown (htb _ tw_69) (htb _ tw_33) (htb _ tw_34) rfl (by rw [hml]; exact hl.1) rfl d_FR_init_1 (Nat.le_of_ble_eq_true rfl) (Nat.le_of_ble_eq_true rfl) ?_
  refine W.eq (g2 := F0 m 4 ls []) rfl ?_
  refine lv_aload_n hx hb d_FR_init_4 rfl (lv_at hl 0 rfl) ?_
  refine lv_iload_n hx hb d_FR_init_5 rfl (lv_at hl 1 rfl) ?_
  refine pz_putF (ci := 1) (v := .int h) (ty := .int) (C := "PageMaker$Frame") (T := T_FR) (N := 3) hx hb htb in_FR ty_FR to_FR nm_FR hown hK hP hD hS hq hf rfl 0 (by decide) (htb _ tw_70) (fun _ h9 => h9) rfl hin rfl rfl rfl rfl (Nat.le_of_ble_eq_true rfl) d_FR_init_6 (fun f1 H locs ef1 hP hD hS => ?_)
  have ef1 : f1 = va_up f q (.inr (1, [.int h, .int b, .int d])) := ef1
  refine lv_aload_n hx hb d_FR_init_9 rfl (lv_at hl 0 rfl) ?_
  refine lv_iload_n hx hb d_FR_init_10 rfl (lv_at hl 2 rfl) ?_
  have h_2 : f1 q = .inr (1, [.int h, .int b, .int d]) := by rw [ef1]; exact va_up_self _ _ _
  refine pz_putF (ci := 1) (v := .int t) (ty := .int) (C := "PageMaker$Frame") (T := T_FR) (N := 3) hx hb htb in_FR ty_FR to_FR nm_FR hown hK hP hD hS hq h_2 rfl 1 (by decide) (htb _ tw_73) (fun _ h9 => h9) rfl hin rfl rfl rfl rfl (Nat.le_of_ble_eq_true rfl) d_FR_init_11 (fun f3 H locs ef3 hP hD hS => ?_)
  have ef3 : f3 = va_up f1 q (.inr (1, [.int h, .int t, .int d])) := ef3
  refine lv_aload_n hx hb d_FR_init_14 rfl (lv_at hl 0 rfl) ?_
  refine lv_iload_n hx hb d_FR_init_15 rfl (lv_at hl 3 rfl) ?_
  have h_4 : f3 q = .inr (1, [.int h, .int t, .int d]) := by rw [ef3]; exact va_up_self _ _ _
  refine pz_putF (ci := 1) (v := .int g) (ty := .int) (C := "PageMaker$Frame") (T := T_FR) (N := 3) hx hb htb in_FR ty_FR to_FR nm_FR hown hK hP hD hS hq h_4 rfl 2 (by decide) (htb _ tw_75) (fun _ h9 => h9) rfl hin rfl rfl rfl rfl (Nat.le_of_ble_eq_true rfl) d_FR_init_16 (fun f5 H locs ef5 hP hD hS => ?_)
  have ef5 : f5 = va_up f3 q (.inr (1, [.int h, .int t, .int g])) := ef5
  exact pz_vret hx hb hr hlocks hK hP hD hS (Nat.le_of_ble_eq_true rfl) (Nat.le_of_ble_eq_true rfl) (by rw [ef5, ef3, ef1, bx_uu, bx_uu]) d_FR_init_19
set_option maxHeartbeats 4000000 in
set_option maxRecDepth 100000 in
/-- Totals.addSpace(x) -/
theorem c_TO_addSpace (l : Launch) (G : gG) (L : List Nat) (f : Nat → va_E) (sz : Nat) (t st : Nat) (len dep shr x : Int64) (ht : t ∈ L) (hf : f t = .inr (3, [.ref st, .long len, .long dep, .long shr])) : mV l y_TO_addSpace w_TO_addSpace ({ frames := 0, cells := 0, slots := 0, locals := 0 }) G L f sz [.ref t, .long x] 0 0 (fun u => u = (L, va_up f t (.inr (3, [.ref st, .long (len + (dep + x)), .long 0, .long shr])))) := by
  refine pz_met (cc := prog_10_method_3_code) (maxL := 3) (ret := none) (by decide) rfl (Nat.le_of_ble_eq_true rfl) ?_
  intro p e s m below meth c ls hx hb hr hml hts hown hlocks hin hsz hK hP hD hS hA hz hl
  have htb : ∀ w ∈ TB, w.before _ s = true := fun w h => hts w (List.mem_cons_of_mem _ h)
  have hl : lv_has ls 3 [(0, .ref t), (1, .long x)] := hl
  refine lv_aload_n hx hb d_TO_addSpace_0 rfl (lv_at hl 0 rfl) ?_
  refine lv_dup hx hb d_TO_addSpace_1 rfl ?_
  refine pz_get (ci := 3) (C := "PageMaker$Totals") (T := T_TO) (N := 4) hx hb htb in_TO hown hK hP ht hf rfl 1 (by decide) (htb _ tw_100) (fun _ h9 => h9) rfl d_TO_addSpace_2 ?_
  refine lv_aload_n hx hb d_TO_addSpace_5 rfl (lv_at hl 0 rfl) ?_
  refine pz_get (ci := 3) (C := "PageMaker$Totals") (T := T_TO) (N := 4) hx hb htb in_TO hown hK hP ht hf rfl 2 (by decide) (htb _ tw_105) (fun _ h9 => h9) rfl d_TO_addSpace_6 ?_
  refine lv_lload_n hx hb d_TO_addSpace_9 rfl (lv_at hl 1 rfl) ?_
  refine lv_ladd hx hb d_TO_addSpace_10 ?_
  refine lv_ladd hx hb d_TO_addSpace_11 ?_
  refine pz_put (ci := 3) (v := .long (len + (dep + x))) (ty := .long) (C := "PageMaker$Totals") (T := T_TO) (N := 4) hx hb htb in_TO ty_TO to_TO nm_TO hown hK hP hD hS ht hf rfl 1 (by decide) (htb _ tw_100) (fun _ h9 => h9) rfl rfl rfl rfl (Nat.le_of_ble_eq_true rfl) d_TO_addSpace_12 (fun f1 H locs ef1 hP hD hS => ?_)
  have ef1 : f1 = va_up f t (.inr (3, [.ref st, .long (len + (dep + x)), .long dep, .long shr])) := ef1
  refine lv_aload_n hx hb d_TO_addSpace_15 rfl (lv_at hl 0 rfl) ?_
  refine lv_lconst (v := 0) hx hb d_TO_addSpace_16 rfl ?_
  have h_2 : f1 t = .inr (3, [.ref st, .long (len + (dep + x)), .long dep, .long shr]) := by rw [ef1]; exact va_up_self _ _ _
  refine pz_put (ci := 3) (v := .long 0) (ty := .long) (C := "PageMaker$Totals") (T := T_TO) (N := 4) hx hb htb in_TO ty_TO to_TO nm_TO hown hK hP hD hS ht h_2 rfl 2 (by decide) (htb _ tw_105) (fun _ h9 => h9) rfl rfl rfl rfl (Nat.le_of_ble_eq_true rfl) d_TO_addSpace_17 (fun f3 H locs ef3 hP hD hS => ?_)
  have ef3 : f3 = va_up f1 t (.inr (3, [.ref st, .long (len + (dep + x)), .long 0, .long shr])) := ef3
  exact pz_vret hx hb hr hlocks hK hP hD hS (Nat.le_of_ble_eq_true rfl) (Nat.le_of_ble_eq_true rfl) (by rw [ef3, ef1, bx_uu]) d_TO_addSpace_20
set_option maxHeartbeats 4000000 in
set_option maxRecDepth 100000 in
/-- isSize -/
theorem c_PM_isSize (l : Launch) (v : Int32) : pI l y_PM_isSize w_PM_isSize ({ frames := 0, cells := 0, slots := 0, locals := 0 }) [.int v] (k_b (k_isS v)) := by
  refine pz_metP (cc := prog_1_method_13_code) (maxL := 1) (ret := (some .boolean)) (by decide) rfl (Nat.le_of_ble_eq_true rfl) ?_
  intro p e s m below meth c ls hx hb hr hml hts hown hlocks hl
  have htb : ∀ w ∈ TB, w.before _ s = true := fun w h => hts w (List.mem_cons_of_mem _ h)
  have hl : lv_has ls 1 [(0, .int v)] := hl
  refine lv_iload_n hx hb d_PM_isSize_0 rfl (lv_at hl 0 rfl) ?_
  refine lv_ldc (v := (-1073741823)) hx hb hown (htb _ tw_200) d_PM_isSize_1 ?_
  refine lv_icmp_lt (tgt := 16) hx hb d_PM_isSize_3 (by decide) (fun c_1 => ?_) (fun c_1 => ?_)
  · refine lv_iconst (v := 0) hx hb d_PM_isSize_16 (by decide) ?_
    exact pz_iretS hx hb hr rfl hlocks (k_b0 (fun h => absurd h.1 (i32_nle c_1))) d_PM_isSize_17
  · refine lv_iload_n hx hb d_PM_isSize_6 rfl (lv_at hl 0 rfl) ?_
    refine lv_ldc (v := 1073741823) hx hb hown (htb _ tw_196) d_PM_isSize_7 ?_
    refine lv_icmp_gt (tgt := 16) hx hb d_PM_isSize_9 (by decide) (fun c_2 => ?_) (fun c_2 => ?_)
    · refine lv_iconst (v := 0) hx hb d_PM_isSize_16 (by decide) ?_
      exact pz_iretS hx hb hr rfl hlocks (k_b0 (fun h => absurd h.2 (i32_nle c_2))) d_PM_isSize_17
    · refine lv_iconst (v := 1) hx hb d_PM_isSize_12 (by decide) ?_
      refine lv_goto (tgt := 17) hx hb d_PM_isSize_13 (by decide) ?_
      exact pz_iretS hx hb hr rfl hlocks (k_b1 ⟨i32_le c_1, i32_le c_2⟩) d_PM_isSize_17
set_option maxHeartbeats 4000000 in
set_option maxRecDepth 100000 in
/-- isSizeFromZero -/
theorem c_PM_isSizeFromZero (l : Launch) (v : Int32) : pI l y_PM_isSizeFromZero w_PM_isSizeFromZero ({ frames := 0, cells := 0, slots := 0, locals := 0 }) [.int v] (k_b (k_isZ v)) := by
  refine pz_metP (cc := prog_1_method_14_code) (maxL := 1) (ret := (some .boolean)) (by decide) rfl (Nat.le_of_ble_eq_true rfl) ?_
  intro p e s m below meth c ls hx hb hr hml hts hown hlocks hl
  have htb : ∀ w ∈ TB, w.before _ s = true := fun w h => hts w (List.mem_cons_of_mem _ h)
  have hl : lv_has ls 1 [(0, .int v)] := hl
  refine lv_iload_n hx hb d_PM_isSizeFromZero_0 rfl (lv_at hl 0 rfl) ?_
  refine lv_if_lt (tgt := 14) hx hb d_PM_isSizeFromZero_1 (by decide) (fun c_1 => ?_) (fun c_1 => ?_)
  · refine lv_iconst (v := 0) hx hb d_PM_isSizeFromZero_14 (by decide) ?_
    exact pz_iretS hx hb hr rfl hlocks (k_b0 (fun h => absurd h.1 (i32_nle c_1))) d_PM_isSizeFromZero_15
  · refine lv_iload_n hx hb d_PM_isSizeFromZero_4 rfl (lv_at hl 0 rfl) ?_
    refine lv_ldc (v := 1073741823) hx hb hown (htb _ tw_196) d_PM_isSizeFromZero_5 ?_
    refine lv_icmp_gt (tgt := 14) hx hb d_PM_isSizeFromZero_7 (by decide) (fun c_2 => ?_) (fun c_2 => ?_)
    · refine lv_iconst (v := 0) hx hb d_PM_isSizeFromZero_14 (by decide) ?_
      exact pz_iretS hx hb hr rfl hlocks (k_b0 (fun h => absurd h.2 (i32_nle c_2))) d_PM_isSizeFromZero_15
    · refine lv_iconst (v := 1) hx hb d_PM_isSizeFromZero_10 (by decide) ?_
      refine lv_goto (tgt := 15) hx hb d_PM_isSizeFromZero_11 (by decide) ?_
      exact pz_iretS hx hb hr rfl hlocks (k_b1 ⟨i32_le c_1, i32_le c_2⟩) d_PM_isSizeFromZero_15
set_option maxHeartbeats 4000000 in
set_option maxRecDepth 100000 in
/-- costOf(b, p) -/
theorem c_PM_costOf (l : Launch) (bb pp : Int32) : pI l y_PM_costOf w_PM_costOf ({ frames := 0, cells := 0, slots := 0, locals := 0 }) [.int bb, .int pp] (fun r => r = k_cost bb pp) := by
  refine pz_metP (cc := prog_1_method_25_code) (maxL := 2) (ret := (some .int)) (by decide) rfl (Nat.le_of_ble_eq_true rfl) ?_
  intro p e s m below meth c ls hx hb hr hml hts hown hlocks hl
  have htb : ∀ w ∈ TB, w.before _ s = true := fun w h => hts w (List.mem_cons_of_mem _ h)
  have hl : lv_has ls 2 [(0, .int bb), (1, .int pp)] := hl
  refine lv_iload_n hx hb d_PM_costOf_0 rfl (lv_at hl 0 rfl) ?_
  refine lv_ldc (v := 1073741823) hx hb hown (htb _ tw_196) d_PM_costOf_1 ?_
  refine lv_icmp_ne (tgt := 9) hx hb d_PM_costOf_3 (by decide) (fun c_1 => ?_) (fun c_1 => ?_)
  · refine lv_iload_n hx hb d_PM_costOf_9 rfl (lv_at hl 1 rfl) ?_
    refine lv_sipush (v := (-10000)) hx hb d_PM_costOf_10 (by decide) ?_
    refine lv_icmp_gt (tgt := 18) hx hb d_PM_costOf_13 (by decide) (fun c_2 => ?_) (fun c_2 => ?_)
    · refine lv_iload_n hx hb d_PM_costOf_18 rfl (lv_at hl 0 rfl) ?_
      refine lv_sipush (v := 10000) hx hb d_PM_costOf_19 (by decide) ?_
      refine lv_icmp_ge (tgt := 31) hx hb d_PM_costOf_22 (by decide) (fun c_3 => ?_) (fun c_3 => ?_)
      · refine lv_ldc (v := 100000) hx hb hown (htb _ tw_439) d_PM_costOf_31 ?_
        exact pz_iretS hx hb hr rfl hlocks (by rw [k_cost, if_neg c_1, if_neg (i32_nle c_2), if_neg (i32_nlt c_3)]) d_PM_costOf_33
      · refine lv_iload_n hx hb d_PM_costOf_25 rfl (lv_at hl 0 rfl) ?_
        refine lv_iload_n hx hb d_PM_costOf_26 rfl (lv_at hl 1 rfl) ?_
        refine lv_iadd hx hb d_PM_costOf_27 ?_
        refine lv_goto (tgt := 33) hx hb d_PM_costOf_28 (by decide) ?_
        exact pz_iretS hx hb hr rfl hlocks (by rw [k_cost, if_neg c_1, if_neg (i32_nle c_2), if_pos (i32_lt c_3)]) d_PM_costOf_33
    · refine lv_iload_n hx hb d_PM_costOf_16 rfl (lv_at hl 1 rfl) ?_
      exact pz_iretS hx hb hr rfl hlocks (by rw [k_cost, if_neg c_1, if_pos (i32_le c_2)]) d_PM_costOf_17
  · refine lv_ldc (v := 1073741823) hx hb hown (htb _ tw_196) d_PM_costOf_6 ?_
    exact pz_iretS hx hb hr rfl hlocks (by rw [k_cost, if_pos c_1]) d_PM_costOf_8
set_option maxHeartbeats 4000000 in
set_option maxRecDepth 100000 in
/-- badnessOf(t, x) -/
theorem c_PM_badnessOf (l : Launch) (t x : Int64) : pI l y_PM_badnessOf w_PM_badnessOf ({ frames := 0, cells := 0, slots := 0, locals := 0 }) [.long t, .long x] (fun r => r = k_bad t x) := by
  refine pz_metP (cc := prog_1_method_24_code) (maxL := 6) (ret := (some .int)) (by decide) rfl (Nat.le_of_ble_eq_true rfl) ?_
  intro p e s m below meth c ls hx hb hr hml hts hown hlocks hl
  have htb : ∀ w ∈ TB, w.before _ s = true := fun w h => hts w (List.mem_cons_of_mem _ h)
  have hl : lv_has ls 6 [(0, .long t), (2, .long x)] := hl
  refine lv_lload_n hx hb d_PM_badnessOf_0 rfl (lv_at hl 1 rfl) ?_
  refine lv_lconst (v := 0) hx hb d_PM_badnessOf_1 rfl ?_
  refine pz_lgt (tgt := 10) hx hb d_PM_badnessOf_2 d_PM_badnessOf_3 (by decide) (fun c_1 => ?_) (fun c_1 => ?_)
  · refine lv_lload_n hx hb d_PM_badnessOf_10 rfl (lv_at hl 0 rfl) ?_
    refine lv_ldc2 (v := 7230584) hx hb hown (htb _ tw_429) d_PM_badnessOf_11 ?_
    refine pz_lgt (tgt := 30) hx hb d_PM_badnessOf_14 d_PM_badnessOf_15 (by decide) (fun c_2 => ?_) (fun c_2 => ?_)
    · refine lv_lload_n hx hb d_PM_badnessOf_30 rfl (lv_at hl 1 rfl) ?_
      refine lv_ldc2 (v := 1663497) hx hb hown (htb _ tw_431) d_PM_badnessOf_31 ?_
      refine pz_llt (tgt := 50) hx hb d_PM_badnessOf_34 d_PM_badnessOf_35 (by decide) (fun c_3 => ?_) (fun c_3 => ?_)
      · refine lv_lload_n hx hb d_PM_badnessOf_50 rfl (lv_at hl 0 rfl) ?_
        refine lv_lstore (lv' := [(4, .long t), (0, .long t), (2, .long x)]) hx hb d_PM_badnessOf_51 hl (by decide) rfl (fun ls hl => ?_)
        refine lv_lload hx hb d_PM_badnessOf_53 (lv_at hl 0 rfl) ?_
        refine lv_ldc2 (v := 1290) hx hb hown (htb _ tw_432) d_PM_badnessOf_55 ?_
        refine pz_lle (tgt := 68) hx hb d_PM_badnessOf_58 d_PM_badnessOf_59 (by decide) (fun c_4 => ?_) (fun c_4 => ?_)
        · refine lv_lload hx hb d_PM_badnessOf_68 (lv_at hl 0 rfl) ?_
          refine lv_lload hx hb d_PM_badnessOf_70 (lv_at hl 0 rfl) ?_
          refine lv_lmul hx hb d_PM_badnessOf_72 ?_
          refine lv_lload hx hb d_PM_badnessOf_73 (lv_at hl 0 rfl) ?_
          refine lv_lmul hx hb d_PM_badnessOf_75 ?_
          refine lv_ldc2 (v := 131072) hx hb hown (htb _ tw_433) d_PM_badnessOf_76 ?_
          refine lv_ladd hx hb d_PM_badnessOf_79 ?_
          refine lv_ldc2 (v := 262144) hx hb hown (htb _ tw_434) d_PM_badnessOf_80 ?_
          have hne5 : ¬ (262144 : Int64) = 0 := by decide
          refine lv_ldiv hx hb d_PM_badnessOf_83 hne5 ?_
          refine lv_l2i hx hb d_PM_badnessOf_84 rfl ?_
          exact pz_iretS hx hb hr rfl hlocks (by rw [k_bad, if_neg (k_nle c_1), if_neg (k_nlt' c_2), if_neg (k_nlt' c_3), if_neg (k_nlt c_4)]) d_PM_badnessOf_85
        · refine lv_sipush (v := 10000) hx hb d_PM_badnessOf_62 (by decide) ?_
          refine lv_goto (tgt := 85) hx hb d_PM_badnessOf_65 (by decide) ?_
          exact pz_iretS hx hb hr rfl hlocks (by rw [k_bad, if_neg (k_nle c_1), if_neg (k_nlt' c_2), if_neg (k_nlt' c_3), if_pos c_4]) d_PM_badnessOf_85
      · refine lv_lload_n hx hb d_PM_badnessOf_38 rfl (lv_at hl 0 rfl) ?_
        refine lv_lload_n hx hb d_PM_badnessOf_39 rfl (lv_at hl 1 rfl) ?_
        refine lv_ldc2 (v := 297) hx hb hown (htb _ tw_430) d_PM_badnessOf_40 ?_
        have hne6 : ¬ (297 : Int64) = 0 := by decide
        refine lv_ldiv hx hb d_PM_badnessOf_43 hne6 ?_
        have hne7 : ¬ (x / 297) = 0 := k_div c_3
        refine lv_ldiv hx hb d_PM_badnessOf_44 hne7 ?_
        refine lv_lstore (lv' := [(4, .long (t / (x / 297))), (0, .long t), (2, .long x)]) hx hb d_PM_badnessOf_45 hl (by decide) rfl (fun ls hl => ?_)
        refine lv_goto (tgt := 53) hx hb d_PM_badnessOf_47 (by decide) ?_
        refine lv_lload hx hb d_PM_badnessOf_53 (lv_at hl 0 rfl) ?_
        refine lv_ldc2 (v := 1290) hx hb hown (htb _ tw_432) d_PM_badnessOf_55 ?_
        refine pz_lle (tgt := 68) hx hb d_PM_badnessOf_58 d_PM_badnessOf_59 (by decide) (fun c_8 => ?_) (fun c_8 => ?_)
        · refine lv_lload hx hb d_PM_badnessOf_68 (lv_at hl 0 rfl) ?_
          refine lv_lload hx hb d_PM_badnessOf_70 (lv_at hl 0 rfl) ?_
          refine lv_lmul hx hb d_PM_badnessOf_72 ?_
          refine lv_lload hx hb d_PM_badnessOf_73 (lv_at hl 0 rfl) ?_
          refine lv_lmul hx hb d_PM_badnessOf_75 ?_
          refine lv_ldc2 (v := 131072) hx hb hown (htb _ tw_433) d_PM_badnessOf_76 ?_
          refine lv_ladd hx hb d_PM_badnessOf_79 ?_
          refine lv_ldc2 (v := 262144) hx hb hown (htb _ tw_434) d_PM_badnessOf_80 ?_
          have hne9 : ¬ (262144 : Int64) = 0 := by decide
          refine lv_ldiv hx hb d_PM_badnessOf_83 hne9 ?_
          refine lv_l2i hx hb d_PM_badnessOf_84 rfl ?_
          exact pz_iretS hx hb hr rfl hlocks (by rw [k_bad, if_neg (k_nle c_1), if_neg (k_nlt' c_2), if_pos c_3, if_neg (k_nlt c_8)]) d_PM_badnessOf_85
        · refine lv_sipush (v := 10000) hx hb d_PM_badnessOf_62 (by decide) ?_
          refine lv_goto (tgt := 85) hx hb d_PM_badnessOf_65 (by decide) ?_
          exact pz_iretS hx hb hr rfl hlocks (by rw [k_bad, if_neg (k_nle c_1), if_neg (k_nlt' c_2), if_pos c_3, if_pos c_8]) d_PM_badnessOf_85
    · refine lv_ldc2 (v := 297) hx hb hown (htb _ tw_430) d_PM_badnessOf_18 ?_
      refine lv_lload_n hx hb d_PM_badnessOf_21 rfl (lv_at hl 0 rfl) ?_
      refine lv_lmul hx hb d_PM_badnessOf_22 ?_
      refine lv_lload_n hx hb d_PM_badnessOf_23 rfl (lv_at hl 1 rfl) ?_
      have hne10 : ¬ x = 0 := k_pos c_1
      refine lv_ldiv hx hb d_PM_badnessOf_24 hne10 ?_
      refine lv_lstore (lv' := [(4, .long (((297 : Int64) * t) / x)), (0, .long t), (2, .long x)]) hx hb d_PM_badnessOf_25 hl (by decide) rfl (fun ls hl => ?_)
      refine lv_goto (tgt := 53) hx hb d_PM_badnessOf_27 (by decide) ?_
      refine lv_lload hx hb d_PM_badnessOf_53 (lv_at hl 0 rfl) ?_
      refine lv_ldc2 (v := 1290) hx hb hown (htb _ tw_432) d_PM_badnessOf_55 ?_
      refine pz_lle (tgt := 68) hx hb d_PM_badnessOf_58 d_PM_badnessOf_59 (by decide) (fun c_11 => ?_) (fun c_11 => ?_)
      · refine lv_lload hx hb d_PM_badnessOf_68 (lv_at hl 0 rfl) ?_
        refine lv_lload hx hb d_PM_badnessOf_70 (lv_at hl 0 rfl) ?_
        refine lv_lmul hx hb d_PM_badnessOf_72 ?_
        refine lv_lload hx hb d_PM_badnessOf_73 (lv_at hl 0 rfl) ?_
        refine lv_lmul hx hb d_PM_badnessOf_75 ?_
        refine lv_ldc2 (v := 131072) hx hb hown (htb _ tw_433) d_PM_badnessOf_76 ?_
        refine lv_ladd hx hb d_PM_badnessOf_79 ?_
        refine lv_ldc2 (v := 262144) hx hb hown (htb _ tw_434) d_PM_badnessOf_80 ?_
        have hne12 : ¬ (262144 : Int64) = 0 := by decide
        refine lv_ldiv hx hb d_PM_badnessOf_83 hne12 ?_
        refine lv_l2i hx hb d_PM_badnessOf_84 rfl ?_
        exact pz_iretS hx hb hr rfl hlocks (by rw [k_bad, if_neg (k_nle c_1), if_pos c_2, if_neg (k_nlt c_11)]) d_PM_badnessOf_85
      · refine lv_sipush (v := 10000) hx hb d_PM_badnessOf_62 (by decide) ?_
        refine lv_goto (tgt := 85) hx hb d_PM_badnessOf_65 (by decide) ?_
        exact pz_iretS hx hb hr rfl hlocks (by rw [k_bad, if_neg (k_nle c_1), if_pos c_2, if_pos c_11]) d_PM_badnessOf_85
  · refine lv_sipush (v := 10000) hx hb d_PM_badnessOf_6 (by decide) ?_
    exact pz_iretS hx hb hr rfl hlocks (by rw [k_bad, if_pos c_1]) d_PM_badnessOf_9
