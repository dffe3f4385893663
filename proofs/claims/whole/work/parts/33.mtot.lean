/-! THE MODEL'S METHODS: what they mean; sizes, totals, badness -/
/-- the model's totals are T -/
def TV (ln dp sh : Int64) (g : Nat → Int64) (T : Tt) : Prop := ln = T.1 ∧ dp = T.2.1 ∧ sh = T.2.2.1 ∧ ∀ j, j < 4 → g j = T.2.2.2 j
def TM (M : MS) (T : Tt) : Prop := TV M.ln M.dp M.sh M.g T
/-- only totals changed -/
def MK (M1 M : MS) : Prop := M1.i = M.i ∧ M1.r = M.r
/-- the item at i in the model's arrays -/
def itM (r : Nat → Nat → Int32) (i : Nat) (it : It) : Prop := match it with
  | .inl (h, d) => r 1 i = 0 ∧ r 3 i = h ∧ r 4 i = d
  | .inr (.inl (w, s, o, d)) => r 1 i = 1 ∧ r 2 i = w ∧ r 3 i = s ∧ r 4 i = d ∧ r 5 i = o
  | .inr (.inr (.inl w)) => r 1 i = 2 ∧ r 2 i = w
  | .inr (.inr (.inr p)) => r 1 i = 3 ∧ r 2 i = p
/-- the row j of the pages: its frame, its first box -/
def PR (r : Nat → Nat → Int32) (j : Nat) (F : Fr) (a : Nat) : Prop := r 6 j = F.1 ∧ r 7 j = F.2.1 ∧ r 8 j = F.2.2 ∧ r 9 j = nI a
/-- no total is below 0, or large -/
def NN (M : MS) : Prop := (∀ j, j < 4 → 0 ≤ (M.g j).toInt ∧ (M.g j).toInt < 2 ^ 60) ∧ 0 ≤ M.sh.toInt
theorem nn_sh {M : MS} (h : NN M) : 0 ≤ M.sh := by
  rw [Int64.le_iff_toInt_le, Int64.toInt_zero]
  exact h.2
theorem nn_g0 {M : MS} (h : NN M) : 0 ≤ M.g 0 := by
  rw [Int64.le_iff_toInt_le, Int64.toInt_zero]
  exact (h.1 0 (by decide)).1
theorem nn_go {M : MS} (h : NN M) : 0 < M.g 1 + M.g 2 + M.g 3 ↔ 0 < k_go M.g := by
  obtain ⟨a1, a2⟩ := h.1 1 (by decide)
  obtain ⟨b1, b2⟩ := h.1 2 (by decide)
  obtain ⟨c1, c2⟩ := h.1 3 (by decide)
  have e1 : (M.g 1 + M.g 2).toInt = (M.g 1).toInt + (M.g 2).toInt := by
    rw [Int64.toInt_add, Int.bmod_eq_of_le (by omega) (by omega)]
  have e2 : (M.g 1 + M.g 2 + M.g 3).toInt = (M.g 1).toInt + (M.g 2).toInt + (M.g 3).toInt := by
    rw [Int64.toInt_add, e1, Int.bmod_eq_of_le (by omega) (by omega)]
  rw [Int64.lt_iff_toInt_lt, e2, Int64.toInt_zero]
  have p : ∀ x : Int64, 0 < x ↔ 0 < x.toInt := fun x => by rw [Int64.lt_iff_toInt_lt, Int64.toInt_zero]
  unfold k_go
  simp only [p]
  split
  · exact ⟨fun _ => by decide, fun _ => by omega⟩
  · split
    · exact ⟨fun _ => by decide, fun _ => by omega⟩
    · split
      · exact ⟨fun _ => by decide, fun _ => by omega⟩
      · exact ⟨fun _ => absurd (show 0 < (M.g 1).toInt + (M.g 2).toInt + (M.g 3).toInt by assumption) (by omega), fun h => absurd h (by decide)⟩
theorem k_posof {x : Int64} (h : 0 ≤ x) (h1 : ¬ x = 0) : 0 < x := by
  rw [Int64.le_iff_toInt_le, Int64.toInt_zero] at h
  rw [Int64.lt_iff_toInt_lt, Int64.toInt_zero]
  rcases Int.lt_or_eq_of_le h with h2 | h2
  · exact h2
  · exact absurd (Int64.toInt_inj.mp (h2.symm.trans Int64.toInt_zero.symm)) h1
theorem k_leof {x : Int64} (h : x = 0) : x ≤ 0 := by
  rw [h]
  decide
theorem k_top_ge {t h : Int32} (c : 0 ≤ t.toInt64 - h.toInt64) : t.toInt64 - h.toInt64 = k_top t h := by
  unfold k_top
  split
  · rfl
  · next n => exact Int64.le_antisymm (by rw [Int64.lt_iff_toInt_lt] at n; rw [Int64.le_iff_toInt_le]; omega) c
theorem k_top_lt {t h : Int32} (c : t.toInt64 - h.toInt64 < 0) : (0 : Int64) = k_top t h := by
  unfold k_top
  rw [if_neg (pz_ltN c).1]
theorem tv_clear {x y : Int64} {g : Nat → Int64} (h : x = y) : TV x 0 0 (vp_updL (vp_updL (vp_updL (vp_updL g 0 0) 1 0) 2 0) 3 0) (t_sp y t_0) := by
  subst h
  refine ⟨?_, rfl, rfl, fun j hj => ?_⟩
  · show x = 0 + (0 + x)
    rw [Int64.zero_add, Int64.zero_add]
  · rcases (show j = 0 ∨ j = 1 ∨ j = 2 ∨ j = 3 by omega) with rfl | rfl | rfl | rfl <;> rfl
theorem k_dep_le {d g : Int32} (c : d.toInt64 ≤ g.toInt64) : k_dep d g = d.toInt64 := by
  unfold k_dep
  rw [if_neg (fun h => ?_)]
  rw [Int64.le_iff_toInt_le, Int32.toInt_toInt64, Int32.toInt_toInt64] at c
  rw [Int32.lt_iff_toInt_lt] at h
  omega
theorem k_dep_gt {d g : Int32} (c : g.toInt64 < d.toInt64) : k_dep d g = g.toInt64 := by
  unfold k_dep
  rw [if_pos ?_]
  rw [Int64.lt_iff_toInt_lt, Int32.toInt_toInt64, Int32.toInt_toInt64] at c
  rw [Int32.lt_iff_toInt_lt]
  omega
theorem tv_box1 {ln dp sh : Int64} {g : Nat → Int64} {T : Tt} {h d gg : Int32} (hT : TV ln dp sh g T) (c : d.toInt64 ≤ gg.toInt64) : TV (ln + dp + h.toInt64) d.toInt64 sh g (t_add (.inl (h, d)) gg T) := by
  obtain ⟨rfl, rfl, rfl, h4⟩ := hT
  refine ⟨?_, (k_dep_le c).symm, rfl, h4⟩
  show T.1 + T.2.1 + h.toInt64 = T.1 + (T.2.1 + h.toInt64) + (d.toInt64 - k_dep d gg)
  rw [k_dep_le c, Int64.sub_self, Int64.add_zero, Int64.add_assoc]
theorem tv_box2 {ln dp sh : Int64} {g : Nat → Int64} {T : Tt} {h d gg : Int32} (hT : TV ln dp sh g T) (c : gg.toInt64 < d.toInt64) : TV (ln + dp + h.toInt64 + d.toInt64 - gg.toInt64) gg.toInt64 sh g (t_add (.inl (h, d)) gg T) := by
  obtain ⟨rfl, rfl, rfl, h4⟩ := hT
  refine ⟨?_, (k_dep_gt c).symm, rfl, h4⟩
  show T.1 + T.2.1 + h.toInt64 + d.toInt64 - gg.toInt64 = T.1 + (T.2.1 + h.toInt64) + (d.toInt64 - k_dep d gg)
  rw [k_dep_gt c, Int64.sub_eq_add_neg, Int64.sub_eq_add_neg, Int64.add_assoc, Int64.add_assoc T.1]
theorem tv_glue {ln dp sh : Int64} {g : Nat → Int64} {T : Tt} {a b o d gg : Int32} (hT : TV ln dp sh g T) (ho : vp_in o 4) : TV (ln + dp + a.toInt64) 0 (sh + d.toInt64) (vp_updL g o.toNatClampNeg (g o.toNatClampNeg + b.toInt64)) (t_add (.inr (.inl (a, b, o, d))) gg T) := by
  obtain ⟨rfl, rfl, rfl, h4⟩ := hT
  have h5 : o.toNatClampNeg < 4 := Nat.not_le.mp fun q => ho (Or.inr q)
  refine ⟨Int64.add_assoc _ _ _, rfl, rfl, fun j hj => ?_⟩
  show (if j = o.toNatClampNeg then g o.toNatClampNeg + b.toInt64 else g j) = (if j = o.toNatClampNeg then T.2.2.2 o.toNatClampNeg + b.toInt64 else T.2.2.2 j)
  rw [h4 _ h5, h4 j hj]
theorem tv_kern {ln dp sh : Int64} {g : Nat → Int64} {T : Tt} {a gg : Int32} (hT : TV ln dp sh g T) : TV (ln + dp + a.toInt64) 0 sh g (t_add (.inr (.inr (.inl a))) gg T) := by
  obtain ⟨rfl, rfl, rfl, h4⟩ := hT
  exact ⟨Int64.add_assoc _ _ _, rfl, rfl, h4⟩
set_option maxHeartbeats 4000000 in
set_option maxRecDepth 100000 in
/-- model: thrown -/
theorem c_MD_thrown (l : Launch) (G : gG) (A : Nat → Nat) (hA9 : mJn A) (M : MS) (sz : Nat)   : sI l y_MD_thrown w_MD_thrown ({ frames := 0, cells := 0, slots := 0, locals := 0 }) G (LM A) (mF G A M) sz [.ref (A 0)] (fun r => r = M.th) := by
  refine pz_met (cc := prog_12_method_2_code) (maxL := 1) (ret := (some .int)) (by decide) rfl (Nat.le_of_ble_eq_true rfl) ?_
  intro p e s m below meth c ls hx hb hr hml hts hown hlocks hin hsz hK hP hD hS hA hz hl
  have htb : ∀ w ∈ TB, w.before _ s = true := fun w h => hts w (List.mem_cons_of_mem _ h)
  have hl : lv_has ls 1 [(0, .ref (A 0))] := hl
  refine lv_aload_n hx hb d_MD_thrown_0 rfl (lv_at hl 0 rfl) ?_
  have h_1 : mF G A M (A 0) = .inr (10, [.int M.th, .ref (A 1), .ref (A 2), .ref (A 3), .ref (A 4), .ref (A 5), .int M.ct, .int M.ht, .int M.tp, .int M.gr, .ref (A 6), .ref (A 7), .ref (A 8), .ref (A 9), .ref (A 10), .ref (A 11), .ref (A 12), .int M.pg, .int M.bg, .int M.io, .int M.be, .int M.le, .long M.ln, .long M.dp, .ref (A 13), .long M.sh]) := mf_at hA9 M 0 (by decide)
  refine pz_get (ci := 10) (C := "PageMakerModel") (T := T_MD) (N := 26) hx hb htb in_MD hown hK hP (lm_in (by decide)) h_1 rfl 0 (by decide) (htb _ tw_682) (fun _ h9 => h9) rfl d_MD_thrown_1 ?_
  exact pz_iretS hx hb hr rfl hlocks rfl d_MD_thrown_4
set_option maxHeartbeats 4000000 in
set_option maxRecDepth 100000 in
theorem c_MD_isSize (l : Launch) (v : Int32) : pI l y_MD_isSize w_MD_isSize ({ frames := 0, cells := 0, slots := 0, locals := 0 }) [.int v] (k_b (k_isS v)) := by
  refine pz_metP (cc := prog_12_method_3_code) (maxL := 1) (ret := (some .boolean)) (by decide) rfl (Nat.le_of_ble_eq_true rfl) ?_
  intro p e s m below meth c ls hx hb hr hml hts hown hlocks hl
  have htb : ∀ w ∈ TB, w.before _ s = true := fun w h => hts w (List.mem_cons_of_mem _ h)
  have hl : lv_has ls 1 [(0, .int v)] := hl
  refine lv_iload_n hx hb d_MD_isSize_0 rfl (lv_at hl 0 rfl) ?_
  refine lv_ldc (v := (-1073741823)) hx hb hown (htb _ tw_776) d_MD_isSize_1 ?_
  refine lv_icmp_lt (tgt := 16) hx hb d_MD_isSize_3 (by decide) (fun c_1 => ?_) (fun c_1 => ?_)
  · refine lv_iconst (v := 0) hx hb d_MD_isSize_16 (by decide) ?_
    exact pz_iretS hx hb hr rfl hlocks (k_b0 (fun h => absurd h.1 (i32_nle c_1))) d_MD_isSize_17
  · refine lv_iload_n hx hb d_MD_isSize_6 rfl (lv_at hl 0 rfl) ?_
    refine lv_ldc (v := 1073741823) hx hb hown (htb _ tw_681) d_MD_isSize_7 ?_
    refine lv_icmp_gt (tgt := 16) hx hb d_MD_isSize_9 (by decide) (fun c_2 => ?_) (fun c_2 => ?_)
    · refine lv_iconst (v := 0) hx hb d_MD_isSize_16 (by decide) ?_
      exact pz_iretS hx hb hr rfl hlocks (k_b0 (fun h => absurd h.2 (i32_nle c_2))) d_MD_isSize_17
    · refine lv_iconst (v := 1) hx hb d_MD_isSize_12 (by decide) ?_
      refine lv_goto (tgt := 17) hx hb d_MD_isSize_13 (by decide) ?_
      exact pz_iretS hx hb hr rfl hlocks (k_b1 ⟨i32_le c_1, i32_le c_2⟩) d_MD_isSize_17
set_option maxHeartbeats 4000000 in
set_option maxRecDepth 100000 in
theorem c_MD_isMore (l : Launch) (v : Int32) : pI l y_MD_isMore w_MD_isMore ({ frames := 0, cells := 0, slots := 0, locals := 0 }) [.int v] (k_b (k_isZ v)) := by
  refine pz_metP (cc := prog_12_method_4_code) (maxL := 1) (ret := (some .boolean)) (by decide) rfl (Nat.le_of_ble_eq_true rfl) ?_
  intro p e s m below meth c ls hx hb hr hml hts hown hlocks hl
  have htb : ∀ w ∈ TB, w.before _ s = true := fun w h => hts w (List.mem_cons_of_mem _ h)
  have hl : lv_has ls 1 [(0, .int v)] := hl
  refine lv_iload_n hx hb d_MD_isMore_0 rfl (lv_at hl 0 rfl) ?_
  refine lv_if_lt (tgt := 14) hx hb d_MD_isMore_1 (by decide) (fun c_1 => ?_) (fun c_1 => ?_)
  · refine lv_iconst (v := 0) hx hb d_MD_isMore_14 (by decide) ?_
    exact pz_iretS hx hb hr rfl hlocks (k_b0 (fun h => absurd h.1 (i32_nle c_1))) d_MD_isMore_15
  · refine lv_iload_n hx hb d_MD_isMore_4 rfl (lv_at hl 0 rfl) ?_
    refine lv_ldc (v := 1073741823) hx hb hown (htb _ tw_681) d_MD_isMore_5 ?_
    refine lv_icmp_gt (tgt := 14) hx hb d_MD_isMore_7 (by decide) (fun c_2 => ?_) (fun c_2 => ?_)
    · refine lv_iconst (v := 0) hx hb d_MD_isMore_14 (by decide) ?_
      exact pz_iretS hx hb hr rfl hlocks (k_b0 (fun h => absurd h.2 (i32_nle c_2))) d_MD_isMore_15
    · refine lv_iconst (v := 1) hx hb d_MD_isMore_10 (by decide) ?_
      refine lv_goto (tgt := 15) hx hb d_MD_isMore_11 (by decide) ?_
      exact pz_iretS hx hb hr rfl hlocks (k_b1 ⟨i32_le c_1, i32_le c_2⟩) d_MD_isMore_15
set_option maxHeartbeats 4000000 in
set_option maxRecDepth 100000 in
/-- model: frame, the sizes right -/
theorem c_MD_frame (l : Launch) (G : gG) (A : Nat → Nat) (hA9 : mJn A) (M : MS) (sz : Nat) (h t g : Int32) (h1 : k_isZ h) (h2 : k_isS t) (h3 : k_isZ g) : mV l y_MD_frame w_MD_frame ({ frames := 1, cells := 0, slots := 0, locals := 20 }) G (LM A) (mF G A M) sz [.ref (A 0), .int h, .int t, .int g] 0 0 (fun u => u = (LM A, mF G A ((((M.si 0 0).si 2 h).si 3 t).si 4 g))) := by
  refine pz_met (cc := prog_12_method_5_code) (maxL := 4) (ret := none) (by decide) rfl (Nat.le_of_ble_eq_true rfl) ?_
  intro p e s m below meth c ls hx hb hr hml hts hown hlocks hin hsz hK hP hD hS hA hz hl
  have htb : ∀ w ∈ TB, w.before _ s = true := fun w h => hts w (List.mem_cons_of_mem _ h)
  have hl : lv_has ls 4 [(0, .ref (A 0)), (1, .int h), (2, .int t), (3, .int g)] := hl
  refine lv_aload_n hx hb d_MD_frame_0 rfl (lv_at hl 0 rfl) ?_
  refine lv_iload_n hx hb d_MD_frame_1 rfl (lv_at hl 1 rfl) ?_
  refine vp_callSi (va_Run.run (va_runS (As := [.int h]) (rest := [.ref (A 0)]) ⟨hx, hb, hml, hown, hts⟩ (c_MD_isMore l h) (cwS 1 hts (tb_S tw_770 tw_771 tw_8 tw_772) rfl rfl rfl (by decide +kernel) ⟨(Nat.le_of_ble_eq_true rfl), (Nat.le_of_ble_eq_true rfl)⟩) pz_preP rfl rfl hl.1 rfl (lv_room (Nat.le_of_ble_eq_true rfl)) d_MD_frame_2 ⟨(Nat.le_of_ble_eq_true rfl), (Nat.le_of_ble_eq_true rfl)⟩)) (fun r1 hw => ?_)
  have hw : r1 = 1 := k_by (show k_b (k_isZ h) r1 from hw) h1
  subst hw
  refine lv_if_eq (tgt := 26) hx hb d_MD_frame_5 (by decide) (fun c0 => absurd c0 (by decide)) (fun _ => ?_)
  refine lv_iload_n hx hb d_MD_frame_8 rfl (lv_at hl 2 rfl) ?_
  refine vp_callSi (va_Run.run (va_runS (As := [.int t]) (rest := [.ref (A 0)]) ⟨hx, hb, hml, hown, hts⟩ (c_MD_isSize l t) (cwS 1 hts (tb_S tw_773 tw_774 tw_8 tw_775) rfl rfl rfl (by decide +kernel) ⟨(Nat.le_of_ble_eq_true rfl), (Nat.le_of_ble_eq_true rfl)⟩) pz_preP rfl rfl hl.1 rfl (lv_room (Nat.le_of_ble_eq_true rfl)) d_MD_frame_9 ⟨(Nat.le_of_ble_eq_true rfl), (Nat.le_of_ble_eq_true rfl)⟩)) (fun r2 hw => ?_)
  have hw : r2 = 1 := k_by (show k_b (k_isS t) r2 from hw) h2
  subst hw
  refine lv_if_eq (tgt := 26) hx hb d_MD_frame_12 (by decide) (fun c0 => absurd c0 (by decide)) (fun _ => ?_)
  refine lv_iload_n hx hb d_MD_frame_15 rfl (lv_at hl 3 rfl) ?_
  refine vp_callSi (va_Run.run (va_runS (As := [.int g]) (rest := [.ref (A 0)]) ⟨hx, hb, hml, hown, hts⟩ (c_MD_isMore l g) (cwS 1 hts (tb_S tw_770 tw_771 tw_8 tw_772) rfl rfl rfl (by decide +kernel) ⟨(Nat.le_of_ble_eq_true rfl), (Nat.le_of_ble_eq_true rfl)⟩) pz_preP rfl rfl hl.1 rfl (lv_room (Nat.le_of_ble_eq_true rfl)) d_MD_frame_16 ⟨(Nat.le_of_ble_eq_true rfl), (Nat.le_of_ble_eq_true rfl)⟩)) (fun r3 hw => ?_)
  have hw : r3 = 1 := k_by (show k_b (k_isZ g) r3 from hw) h3
  subst hw
  refine lv_if_eq (tgt := 26) hx hb d_MD_frame_19 (by decide) (fun c0 => absurd c0 (by decide)) (fun _ => ?_)
  refine lv_iconst (v := 0) hx hb d_MD_frame_22 (by decide) ?_
  refine lv_goto (tgt := 27) hx hb d_MD_frame_23 (by decide) ?_
  have h_4 : mF G A M (A 0) = .inr (10, [.int M.th, .ref (A 1), .ref (A 2), .ref (A 3), .ref (A 4), .ref (A 5), .int M.ct, .int M.ht, .int M.tp, .int M.gr, .ref (A 6), .ref (A 7), .ref (A 8), .ref (A 9), .ref (A 10), .ref (A 11), .ref (A 12), .int M.pg, .int M.bg, .int M.io, .int M.be, .int M.le, .long M.ln, .long M.dp, .ref (A 13), .long M.sh]) := mf_at hA9 M 0 (by decide)
  refine pz_put (ci := 10) (v := .int 0) (ty := .int) (C := "PageMakerModel") (T := T_MD) (N := 26) hx hb htb in_MD ty_MD to_MD nm_MD hown hK hP hD hS (lm_in (by decide)) h_4 rfl 0 (by decide) (htb _ tw_682) (fun _ h9 => h9) rfl rfl rfl rfl (Nat.le_of_ble_eq_true rfl) d_MD_frame_27 (fun f5 H locs ef5 hP hD hS => ?_)
  have ef5 : f5 = va_up (mF G A M) (A 0) (.inr (10, [.int 0, .ref (A 1), .ref (A 2), .ref (A 3), .ref (A 4), .ref (A 5), .int M.ct, .int M.ht, .int M.tp, .int M.gr, .ref (A 6), .ref (A 7), .ref (A 8), .ref (A 9), .ref (A 10), .ref (A 11), .ref (A 12), .int M.pg, .int M.bg, .int M.io, .int M.be, .int M.le, .long M.ln, .long M.dp, .ref (A 13), .long M.sh])) := ef5
  have ef5 : f5 = mF G A (M.si 0 0) := ef5.trans (mf_o hA9 (M1 := M.si 0 0) rfl rfl)
  subst ef5
  refine lv_aload_n hx hb d_MD_frame_30 rfl (lv_at hl 0 rfl) ?_
  have h_6 : mF G A (M.si 0 0) (A 0) = .inr (10, [.int 0, .ref (A 1), .ref (A 2), .ref (A 3), .ref (A 4), .ref (A 5), .int M.ct, .int M.ht, .int M.tp, .int M.gr, .ref (A 6), .ref (A 7), .ref (A 8), .ref (A 9), .ref (A 10), .ref (A 11), .ref (A 12), .int M.pg, .int M.bg, .int M.io, .int M.be, .int M.le, .long M.ln, .long M.dp, .ref (A 13), .long M.sh]) := mf_at hA9 (M.si 0 0) 0 (by decide)
  refine pz_get (ci := 10) (C := "PageMakerModel") (T := T_MD) (N := 26) hx hb htb in_MD hown hK hP (lm_in (by decide)) h_6 rfl 0 (by decide) (htb _ tw_682) (fun _ h9 => h9) rfl d_MD_frame_31 ?_
  refine lv_if_ne (tgt := 52) hx hb d_MD_frame_34 (by decide) (fun c0 => absurd c0 (by decide)) (fun _ => ?_)
  refine lv_aload_n hx hb d_MD_frame_37 rfl (lv_at hl 0 rfl) ?_
  refine lv_iload_n hx hb d_MD_frame_38 rfl (lv_at hl 1 rfl) ?_
  refine pz_put (ci := 10) (v := .int h) (ty := .int) (C := "PageMakerModel") (T := T_MD) (N := 26) hx hb htb in_MD ty_MD to_MD nm_MD hown hK hP hD hS (lm_in (by decide)) h_6 rfl 7 (by decide) (htb _ tw_689) (fun _ h9 => h9) rfl rfl rfl rfl (Nat.le_of_ble_eq_true rfl) d_MD_frame_39 (fun f7 H locs ef7 hP hD hS => ?_)
  have ef7 : f7 = va_up (mF G A (M.si 0 0)) (A 0) (.inr (10, [.int 0, .ref (A 1), .ref (A 2), .ref (A 3), .ref (A 4), .ref (A 5), .int M.ct, .int h, .int M.tp, .int M.gr, .ref (A 6), .ref (A 7), .ref (A 8), .ref (A 9), .ref (A 10), .ref (A 11), .ref (A 12), .int M.pg, .int M.bg, .int M.io, .int M.be, .int M.le, .long M.ln, .long M.dp, .ref (A 13), .long M.sh])) := ef7
  have ef7 : f7 = mF G A ((M.si 0 0).si 2 h) := ef7.trans (mf_o hA9 (M1 := (M.si 0 0).si 2 h) rfl rfl)
  subst ef7
  refine lv_aload_n hx hb d_MD_frame_42 rfl (lv_at hl 0 rfl) ?_
  refine lv_iload_n hx hb d_MD_frame_43 rfl (lv_at hl 2 rfl) ?_
  have h_8 : mF G A ((M.si 0 0).si 2 h) (A 0) = .inr (10, [.int 0, .ref (A 1), .ref (A 2), .ref (A 3), .ref (A 4), .ref (A 5), .int M.ct, .int h, .int M.tp, .int M.gr, .ref (A 6), .ref (A 7), .ref (A 8), .ref (A 9), .ref (A 10), .ref (A 11), .ref (A 12), .int M.pg, .int M.bg, .int M.io, .int M.be, .int M.le, .long M.ln, .long M.dp, .ref (A 13), .long M.sh]) := mf_at hA9 ((M.si 0 0).si 2 h) 0 (by decide)
  refine pz_put (ci := 10) (v := .int t) (ty := .int) (C := "PageMakerModel") (T := T_MD) (N := 26) hx hb htb in_MD ty_MD to_MD nm_MD hown hK hP hD hS (lm_in (by decide)) h_8 rfl 8 (by decide) (htb _ tw_690) (fun _ h9 => h9) rfl rfl rfl rfl (Nat.le_of_ble_eq_true rfl) d_MD_frame_44 (fun f9 H locs ef9 hP hD hS => ?_)
  have ef9 : f9 = va_up (mF G A ((M.si 0 0).si 2 h)) (A 0) (.inr (10, [.int 0, .ref (A 1), .ref (A 2), .ref (A 3), .ref (A 4), .ref (A 5), .int M.ct, .int h, .int t, .int M.gr, .ref (A 6), .ref (A 7), .ref (A 8), .ref (A 9), .ref (A 10), .ref (A 11), .ref (A 12), .int M.pg, .int M.bg, .int M.io, .int M.be, .int M.le, .long M.ln, .long M.dp, .ref (A 13), .long M.sh])) := ef9
  have ef9 : f9 = mF G A (((M.si 0 0).si 2 h).si 3 t) := ef9.trans (mf_o hA9 (M1 := ((M.si 0 0).si 2 h).si 3 t) rfl rfl)
  subst ef9
  refine lv_aload_n hx hb d_MD_frame_47 rfl (lv_at hl 0 rfl) ?_
  refine lv_iload_n hx hb d_MD_frame_48 rfl (lv_at hl 3 rfl) ?_
  have h_10 : mF G A (((M.si 0 0).si 2 h).si 3 t) (A 0) = .inr (10, [.int 0, .ref (A 1), .ref (A 2), .ref (A 3), .ref (A 4), .ref (A 5), .int M.ct, .int h, .int t, .int M.gr, .ref (A 6), .ref (A 7), .ref (A 8), .ref (A 9), .ref (A 10), .ref (A 11), .ref (A 12), .int M.pg, .int M.bg, .int M.io, .int M.be, .int M.le, .long M.ln, .long M.dp, .ref (A 13), .long M.sh]) := mf_at hA9 (((M.si 0 0).si 2 h).si 3 t) 0 (by decide)
  refine pz_put (ci := 10) (v := .int g) (ty := .int) (C := "PageMakerModel") (T := T_MD) (N := 26) hx hb htb in_MD ty_MD to_MD nm_MD hown hK hP hD hS (lm_in (by decide)) h_10 rfl 9 (by decide) (htb _ tw_691) (fun _ h9 => h9) rfl rfl rfl rfl (Nat.le_of_ble_eq_true rfl) d_MD_frame_49 (fun f11 H locs ef11 hP hD hS => ?_)
  have ef11 : f11 = va_up (mF G A (((M.si 0 0).si 2 h).si 3 t)) (A 0) (.inr (10, [.int 0, .ref (A 1), .ref (A 2), .ref (A 3), .ref (A 4), .ref (A 5), .int M.ct, .int h, .int t, .int g, .ref (A 6), .ref (A 7), .ref (A 8), .ref (A 9), .ref (A 10), .ref (A 11), .ref (A 12), .int M.pg, .int M.bg, .int M.io, .int M.be, .int M.le, .long M.ln, .long M.dp, .ref (A 13), .long M.sh])) := ef11
  have ef11 : f11 = mF G A ((((M.si 0 0).si 2 h).si 3 t).si 4 g) := ef11.trans (mf_o hA9 (M1 := (((M.si 0 0).si 2 h).si 3 t).si 4 g) rfl rfl)
  subst ef11
  exact pz_vret hx hb hr hlocks hK hP hD hS (Nat.le_of_ble_eq_true rfl) (Nat.le_of_ble_eq_true rfl) rfl d_MD_frame_52
set_option maxHeartbeats 4000000 in
set_option maxRecDepth 100000 in
/-- model: frame, a size wrong -/
theorem x_MD_frame (l : Launch) (G : gG) (A : Nat → Nat) (hA9 : mJn A) (M : MS) (sz : Nat) (h t g : Int32) (hno : ¬ (k_isZ h ∧ k_isS t ∧ k_isZ g)) : mV l y_MD_frame w_MD_frame ({ frames := 1, cells := 0, slots := 0, locals := 20 }) G (LM A) (mF G A M) sz [.ref (A 0), .int h, .int t, .int g] 0 0 (fun u => u = (LM A, mF G A (M.si 0 1))) := by
  refine pz_met (cc := prog_12_method_5_code) (maxL := 4) (ret := none) (by decide) rfl (Nat.le_of_ble_eq_true rfl) ?_
  intro p e s m below meth c ls hx hb hr hml hts hown hlocks hin hsz hK hP hD hS hA hz hl
  have htb : ∀ w ∈ TB, w.before _ s = true := fun w h => hts w (List.mem_cons_of_mem _ h)
  have hl : lv_has ls 4 [(0, .ref (A 0)), (1, .int h), (2, .int t), (3, .int g)] := hl
  refine lv_aload_n hx hb d_MD_frame_0 rfl (lv_at hl 0 rfl) ?_
  refine lv_iload_n hx hb d_MD_frame_1 rfl (lv_at hl 1 rfl) ?_
  refine vp_callSi (va_Run.run (va_runS (As := [.int h]) (rest := [.ref (A 0)]) ⟨hx, hb, hml, hown, hts⟩ (c_MD_isMore l h) (cwS 1 hts (tb_S tw_770 tw_771 tw_8 tw_772) rfl rfl rfl (by decide +kernel) ⟨(Nat.le_of_ble_eq_true rfl), (Nat.le_of_ble_eq_true rfl)⟩) pz_preP rfl rfl hl.1 rfl (lv_room (Nat.le_of_ble_eq_true rfl)) d_MD_frame_2 ⟨(Nat.le_of_ble_eq_true rfl), (Nat.le_of_ble_eq_true rfl)⟩)) (fun r1 hw => ?_)
  rcases (show k_b (k_isZ h) r1 from hw) with ⟨rfl, hq2⟩ | ⟨rfl, hq2⟩
  · refine lv_if_eq (tgt := 26) hx hb d_MD_frame_5 (by decide) (fun c0 => absurd c0 (by decide)) (fun _ => ?_)
    refine lv_iload_n hx hb d_MD_frame_8 rfl (lv_at hl 2 rfl) ?_
    refine vp_callSi (va_Run.run (va_runS (As := [.int t]) (rest := [.ref (A 0)]) ⟨hx, hb, hml, hown, hts⟩ (c_MD_isSize l t) (cwS 1 hts (tb_S tw_773 tw_774 tw_8 tw_775) rfl rfl rfl (by decide +kernel) ⟨(Nat.le_of_ble_eq_true rfl), (Nat.le_of_ble_eq_true rfl)⟩) pz_preP rfl rfl hl.1 rfl (lv_room (Nat.le_of_ble_eq_true rfl)) d_MD_frame_9 ⟨(Nat.le_of_ble_eq_true rfl), (Nat.le_of_ble_eq_true rfl)⟩)) (fun r3 hw => ?_)
    rcases (show k_b (k_isS t) r3 from hw) with ⟨rfl, hq4⟩ | ⟨rfl, hq4⟩
    · refine lv_if_eq (tgt := 26) hx hb d_MD_frame_12 (by decide) (fun c0 => absurd c0 (by decide)) (fun _ => ?_)
      refine lv_iload_n hx hb d_MD_frame_15 rfl (lv_at hl 3 rfl) ?_
      refine vp_callSi (va_Run.run (va_runS (As := [.int g]) (rest := [.ref (A 0)]) ⟨hx, hb, hml, hown, hts⟩ (c_MD_isMore l g) (cwS 1 hts (tb_S tw_770 tw_771 tw_8 tw_772) rfl rfl rfl (by decide +kernel) ⟨(Nat.le_of_ble_eq_true rfl), (Nat.le_of_ble_eq_true rfl)⟩) pz_preP rfl rfl hl.1 rfl (lv_room (Nat.le_of_ble_eq_true rfl)) d_MD_frame_16 ⟨(Nat.le_of_ble_eq_true rfl), (Nat.le_of_ble_eq_true rfl)⟩)) (fun r5 hw => ?_)
      rcases (show k_b (k_isZ g) r5 from hw) with ⟨rfl, hq6⟩ | ⟨rfl, hq6⟩
      · exact absurd ⟨hq2, hq4, hq6⟩ hno
      · refine lv_if_eq (tgt := 26) hx hb d_MD_frame_19 (by decide) (fun _ => ?_) (fun c0 => absurd c0 (by decide))
        refine lv_iconst (v := 1) hx hb d_MD_frame_26 (by decide) ?_
        have h_7 : mF G A M (A 0) = .inr (10, [.int M.th, .ref (A 1), .ref (A 2), .ref (A 3), .ref (A 4), .ref (A 5), .int M.ct, .int M.ht, .int M.tp, .int M.gr, .ref (A 6), .ref (A 7), .ref (A 8), .ref (A 9), .ref (A 10), .ref (A 11), .ref (A 12), .int M.pg, .int M.bg, .int M.io, .int M.be, .int M.le, .long M.ln, .long M.dp, .ref (A 13), .long M.sh]) := mf_at hA9 M 0 (by decide)
        refine pz_put (ci := 10) (v := .int 1) (ty := .int) (C := "PageMakerModel") (T := T_MD) (N := 26) hx hb htb in_MD ty_MD to_MD nm_MD hown hK hP hD hS (lm_in (by decide)) h_7 rfl 0 (by decide) (htb _ tw_682) (fun _ h9 => h9) rfl rfl rfl rfl (Nat.le_of_ble_eq_true rfl) d_MD_frame_27 (fun f8 H locs ef8 hP hD hS => ?_)
        have ef8 : f8 = va_up (mF G A M) (A 0) (.inr (10, [.int 1, .ref (A 1), .ref (A 2), .ref (A 3), .ref (A 4), .ref (A 5), .int M.ct, .int M.ht, .int M.tp, .int M.gr, .ref (A 6), .ref (A 7), .ref (A 8), .ref (A 9), .ref (A 10), .ref (A 11), .ref (A 12), .int M.pg, .int M.bg, .int M.io, .int M.be, .int M.le, .long M.ln, .long M.dp, .ref (A 13), .long M.sh])) := ef8
        have ef8 : f8 = mF G A (M.si 0 1) := ef8.trans (mf_o hA9 (M1 := M.si 0 1) rfl rfl)
        subst ef8
        refine lv_aload_n hx hb d_MD_frame_30 rfl (lv_at hl 0 rfl) ?_
        have h_9 : mF G A (M.si 0 1) (A 0) = .inr (10, [.int 1, .ref (A 1), .ref (A 2), .ref (A 3), .ref (A 4), .ref (A 5), .int M.ct, .int M.ht, .int M.tp, .int M.gr, .ref (A 6), .ref (A 7), .ref (A 8), .ref (A 9), .ref (A 10), .ref (A 11), .ref (A 12), .int M.pg, .int M.bg, .int M.io, .int M.be, .int M.le, .long M.ln, .long M.dp, .ref (A 13), .long M.sh]) := mf_at hA9 (M.si 0 1) 0 (by decide)
        refine pz_get (ci := 10) (C := "PageMakerModel") (T := T_MD) (N := 26) hx hb htb in_MD hown hK hP (lm_in (by decide)) h_9 rfl 0 (by decide) (htb _ tw_682) (fun _ h9 => h9) rfl d_MD_frame_31 ?_
        refine lv_if_ne (tgt := 52) hx hb d_MD_frame_34 (by decide) (fun _ => ?_) (fun c0 => absurd c0 (by decide))
        exact pz_vret hx hb hr hlocks hK hP hD hS (Nat.le_of_ble_eq_true rfl) (Nat.le_of_ble_eq_true rfl) rfl d_MD_frame_52
    · refine lv_if_eq (tgt := 26) hx hb d_MD_frame_12 (by decide) (fun _ => ?_) (fun c0 => absurd c0 (by decide))
      refine lv_iconst (v := 1) hx hb d_MD_frame_26 (by decide) ?_
      have h_10 : mF G A M (A 0) = .inr (10, [.int M.th, .ref (A 1), .ref (A 2), .ref (A 3), .ref (A 4), .ref (A 5), .int M.ct, .int M.ht, .int M.tp, .int M.gr, .ref (A 6), .ref (A 7), .ref (A 8), .ref (A 9), .ref (A 10), .ref (A 11), .ref (A 12), .int M.pg, .int M.bg, .int M.io, .int M.be, .int M.le, .long M.ln, .long M.dp, .ref (A 13), .long M.sh]) := mf_at hA9 M 0 (by decide)
      refine pz_put (ci := 10) (v := .int 1) (ty := .int) (C := "PageMakerModel") (T := T_MD) (N := 26) hx hb htb in_MD ty_MD to_MD nm_MD hown hK hP hD hS (lm_in (by decide)) h_10 rfl 0 (by decide) (htb _ tw_682) (fun _ h9 => h9) rfl rfl rfl rfl (Nat.le_of_ble_eq_true rfl) d_MD_frame_27 (fun f11 H locs ef11 hP hD hS => ?_)
      have ef11 : f11 = va_up (mF G A M) (A 0) (.inr (10, [.int 1, .ref (A 1), .ref (A 2), .ref (A 3), .ref (A 4), .ref (A 5), .int M.ct, .int M.ht, .int M.tp, .int M.gr, .ref (A 6), .ref (A 7), .ref (A 8), .ref (A 9), .ref (A 10), .ref (A 11), .ref (A 12), .int M.pg, .int M.bg, .int M.io, .int M.be, .int M.le, .long M.ln, .long M.dp, .ref (A 13), .long M.sh])) := ef11
      have ef11 : f11 = mF G A (M.si 0 1) := ef11.trans (mf_o hA9 (M1 := M.si 0 1) rfl rfl)
      subst ef11
      refine lv_aload_n hx hb d_MD_frame_30 rfl (lv_at hl 0 rfl) ?_
      have h_12 : mF G A (M.si 0 1) (A 0) = .inr (10, [.int 1, .ref (A 1), .ref (A 2), .ref (A 3), .ref (A 4), .ref (A 5), .int M.ct, .int M.ht, .int M.tp, .int M.gr, .ref (A 6), .ref (A 7), .ref (A 8), .ref (A 9), .ref (A 10), .ref (A 11), .ref (A 12), .int M.pg, .int M.bg, .int M.io, .int M.be, .int M.le, .long M.ln, .long M.dp, .ref (A 13), .long M.sh]) := mf_at hA9 (M.si 0 1) 0 (by decide)
      refine pz_get (ci := 10) (C := "PageMakerModel") (T := T_MD) (N := 26) hx hb htb in_MD hown hK hP (lm_in (by decide)) h_12 rfl 0 (by decide) (htb _ tw_682) (fun _ h9 => h9) rfl d_MD_frame_31 ?_
      refine lv_if_ne (tgt := 52) hx hb d_MD_frame_34 (by decide) (fun _ => ?_) (fun c0 => absurd c0 (by decide))
      exact pz_vret hx hb hr hlocks hK hP hD hS (Nat.le_of_ble_eq_true rfl) (Nat.le_of_ble_eq_true rfl) rfl d_MD_frame_52
  · refine lv_if_eq (tgt := 26) hx hb d_MD_frame_5 (by decide) (fun _ => ?_) (fun c0 => absurd c0 (by decide))
    refine lv_iconst (v := 1) hx hb d_MD_frame_26 (by decide) ?_
    have h_13 : mF G A M (A 0) = .inr (10, [.int M.th, .ref (A 1), .ref (A 2), .ref (A 3), .ref (A 4), .ref (A 5), .int M.ct, .int M.ht, .int M.tp, .int M.gr, .ref (A 6), .ref (A 7), .ref (A 8), .ref (A 9), .ref (A 10), .ref (A 11), .ref (A 12), .int M.pg, .int M.bg, .int M.io, .int M.be, .int M.le, .long M.ln, .long M.dp, .ref (A 13), .long M.sh]) := mf_at hA9 M 0 (by decide)
    refine pz_put (ci := 10) (v := .int 1) (ty := .int) (C := "PageMakerModel") (T := T_MD) (N := 26) hx hb htb in_MD ty_MD to_MD nm_MD hown hK hP hD hS (lm_in (by decide)) h_13 rfl 0 (by decide) (htb _ tw_682) (fun _ h9 => h9) rfl rfl rfl rfl (Nat.le_of_ble_eq_true rfl) d_MD_frame_27 (fun f14 H locs ef14 hP hD hS => ?_)
    have ef14 : f14 = va_up (mF G A M) (A 0) (.inr (10, [.int 1, .ref (A 1), .ref (A 2), .ref (A 3), .ref (A 4), .ref (A 5), .int M.ct, .int M.ht, .int M.tp, .int M.gr, .ref (A 6), .ref (A 7), .ref (A 8), .ref (A 9), .ref (A 10), .ref (A 11), .ref (A 12), .int M.pg, .int M.bg, .int M.io, .int M.be, .int M.le, .long M.ln, .long M.dp, .ref (A 13), .long M.sh])) := ef14
    have ef14 : f14 = mF G A (M.si 0 1) := ef14.trans (mf_o hA9 (M1 := M.si 0 1) rfl rfl)
    subst ef14
    refine lv_aload_n hx hb d_MD_frame_30 rfl (lv_at hl 0 rfl) ?_
    have h_15 : mF G A (M.si 0 1) (A 0) = .inr (10, [.int 1, .ref (A 1), .ref (A 2), .ref (A 3), .ref (A 4), .ref (A 5), .int M.ct, .int M.ht, .int M.tp, .int M.gr, .ref (A 6), .ref (A 7), .ref (A 8), .ref (A 9), .ref (A 10), .ref (A 11), .ref (A 12), .int M.pg, .int M.bg, .int M.io, .int M.be, .int M.le, .long M.ln, .long M.dp, .ref (A 13), .long M.sh]) := mf_at hA9 (M.si 0 1) 0 (by decide)
    refine pz_get (ci := 10) (C := "PageMakerModel") (T := T_MD) (N := 26) hx hb htb in_MD hown hK hP (lm_in (by decide)) h_15 rfl 0 (by decide) (htb _ tw_682) (fun _ h9 => h9) rfl d_MD_frame_31 ?_
    refine lv_if_ne (tgt := 52) hx hb d_MD_frame_34 (by decide) (fun _ => ?_) (fun c0 => absurd c0 (by decide))
    exact pz_vret hx hb hr hlocks hK hP hD hS (Nat.le_of_ble_eq_true rfl) (Nat.le_of_ble_eq_true rfl) rfl d_MD_frame_52
set_option maxHeartbeats 4000000 in
set_option maxRecDepth 100000 in
/-- model: clear -/
theorem c_MD_clear (l : Launch) (G : gG) (A : Nat → Nat) (hA9 : mJn A) (M : MS) (sz : Nat) (F : Fr) (j a : Nat) (h : Int32) (hj : j ≤ 2000) (ha : a < 2000) (hpg : PR M.r j F a) (h2 : M.tw a = h) : mV l y_MD_clear w_MD_clear ({ frames := 0, cells := 0, slots := 0, locals := 0 }) G (LM A) (mF G A M) sz [.ref (A 0), .int (nI j)] 0 0 (fun u => ∃ M1, u = (LM A, mF G A M1) ∧ MK M1 M ∧ TM M1 (t_sp (k_top F.2.1 h) t_0)) := by
  refine pz_met (cc := prog_12_method_6_code) (maxL := 3) (ret := none) (by decide) rfl (Nat.le_of_ble_eq_true rfl) ?_
  intro p e s m below meth c ls hx hb hr hml hts hown hlocks hin hsz hK hP hD hS hA hz hl
  have htb : ∀ w ∈ TB, w.before _ s = true := fun w h => hts w (List.mem_cons_of_mem _ h)
  have hl : lv_has ls 3 [(0, .ref (A 0)), (1, .int (nI j))] := hl
  refine lv_aload_n hx hb d_MD_clear_0 rfl (lv_at hl 0 rfl) ?_
  refine lv_aload_n hx hb d_MD_clear_1 rfl (lv_at hl 0 rfl) ?_
  have h_1 : mF G A M (A 0) = .inr (10, [.int M.th, .ref (A 1), .ref (A 2), .ref (A 3), .ref (A 4), .ref (A 5), .int M.ct, .int M.ht, .int M.tp, .int M.gr, .ref (A 6), .ref (A 7), .ref (A 8), .ref (A 9), .ref (A 10), .ref (A 11), .ref (A 12), .int M.pg, .int M.bg, .int M.io, .int M.be, .int M.le, .long M.ln, .long M.dp, .ref (A 13), .long M.sh]) := mf_at hA9 M 0 (by decide)
  refine pz_get (ci := 10) (C := "PageMakerModel") (T := T_MD) (N := 26) hx hb htb in_MD hown hK hP (lm_in (by decide)) h_1 rfl 11 (by decide) (htb _ tw_693) (fun _ h9 => h9) rfl d_MD_clear_2 ?_
  refine lv_iload_n hx hb d_MD_clear_5 rfl (lv_at hl 1 rfl) ?_
  have h_2 : mF G A M (A 7) = .inl (cI G, 2001, .inl M.ts) := mf_at hA9 M 7 (by decide)
  refine pz_iald (j := j) hx hb hK hP 0 (lm_in (by decide)) h_2 rfl (by omega) (by decide) d_MD_clear_6 ?_
  refine lv_topi (fun x3 ex3 => ?_)
  have ex3 : x3 = F.2.1 := ex3.trans (hpg.2.1)
  subst ex3
  refine lv_i2l hx hb d_MD_clear_7 rfl ?_
  refine lv_aload_n hx hb d_MD_clear_8 rfl (lv_at hl 0 rfl) ?_
  refine pz_get (ci := 10) (C := "PageMakerModel") (T := T_MD) (N := 26) hx hb htb in_MD hown hK hP (lm_in (by decide)) h_1 rfl 3 (by decide) (htb _ tw_685) (fun _ h9 => h9) rfl d_MD_clear_9 ?_
  refine lv_aload_n hx hb d_MD_clear_12 rfl (lv_at hl 0 rfl) ?_
  refine pz_get (ci := 10) (C := "PageMakerModel") (T := T_MD) (N := 26) hx hb htb in_MD hown hK hP (lm_in (by decide)) h_1 rfl 13 (by decide) (htb _ tw_695) (fun _ h9 => h9) rfl d_MD_clear_13 ?_
  refine lv_iload_n hx hb d_MD_clear_16 rfl (lv_at hl 1 rfl) ?_
  have h_4 : mF G A M (A 9) = .inl (cI G, 2001, .inl M.fs) := mf_at hA9 M 9 (by decide)
  refine pz_iald (j := j) hx hb hK hP 0 (lm_in (by decide)) h_4 rfl (by omega) (by decide) d_MD_clear_17 ?_
  refine lv_topi (fun x5 ex5 => ?_)
  have ex5 : x5 = nI a := ex5.trans (hpg.2.2.2)
  subst ex5
  have h_6 : mF G A M (A 3) = .inl (cI G, 2000, .inl M.tw) := mf_at hA9 M 3 (by decide)
  refine pz_iald (j := a) hx hb hK hP 0 (lm_in (by decide)) h_6 rfl (by omega) (by decide) d_MD_clear_18 ?_
  refine lv_topi (fun x7 ex7 => ?_)
  have ex7 : x7 = h := ex7.trans (h2)
  rw [ex7]
  refine lv_i2l hx hb d_MD_clear_19 rfl ?_
  refine lv_lsub hx hb d_MD_clear_20 ?_
  refine pz_put (ci := 10) (v := .long (F.2.1.toInt64 - h.toInt64)) (ty := .long) (C := "PageMakerModel") (T := T_MD) (N := 26) hx hb htb in_MD ty_MD to_MD nm_MD hown hK hP hD hS (lm_in (by decide)) h_1 rfl 22 (by decide) (htb _ tw_704) (fun _ h9 => h9) rfl rfl rfl rfl (Nat.le_of_ble_eq_true rfl) d_MD_clear_21 (fun f8 H locs ef8 hP hD hS => ?_)
  have ef8 : f8 = va_up (mF G A M) (A 0) (.inr (10, [.int M.th, .ref (A 1), .ref (A 2), .ref (A 3), .ref (A 4), .ref (A 5), .int M.ct, .int M.ht, .int M.tp, .int M.gr, .ref (A 6), .ref (A 7), .ref (A 8), .ref (A 9), .ref (A 10), .ref (A 11), .ref (A 12), .int M.pg, .int M.bg, .int M.io, .int M.be, .int M.le, .long (F.2.1.toInt64 - h.toInt64), .long M.dp, .ref (A 13), .long M.sh])) := ef8
  have ef8 : f8 = mF G A (M.sj 0 (F.2.1.toInt64 - h.toInt64)) := ef8.trans (mf_o hA9 (M1 := M.sj 0 (F.2.1.toInt64 - h.toInt64)) rfl rfl)
  subst ef8
  refine lv_aload_n hx hb d_MD_clear_24 rfl (lv_at hl 0 rfl) ?_
  refine lv_aload_n hx hb d_MD_clear_25 rfl (lv_at hl 0 rfl) ?_
  have h_9 : mF G A (M.sj 0 (F.2.1.toInt64 - h.toInt64)) (A 0) = .inr (10, [.int M.th, .ref (A 1), .ref (A 2), .ref (A 3), .ref (A 4), .ref (A 5), .int M.ct, .int M.ht, .int M.tp, .int M.gr, .ref (A 6), .ref (A 7), .ref (A 8), .ref (A 9), .ref (A 10), .ref (A 11), .ref (A 12), .int M.pg, .int M.bg, .int M.io, .int M.be, .int M.le, .long (F.2.1.toInt64 - h.toInt64), .long M.dp, .ref (A 13), .long M.sh]) := mf_at hA9 (M.sj 0 (F.2.1.toInt64 - h.toInt64)) 0 (by decide)
  refine pz_get (ci := 10) (C := "PageMakerModel") (T := T_MD) (N := 26) hx hb htb in_MD hown hK hP (lm_in (by decide)) h_9 rfl 22 (by decide) (htb _ tw_704) (fun _ h9 => h9) rfl d_MD_clear_26 ?_
  refine lv_lconst (v := 0) hx hb d_MD_clear_29 rfl ?_
  refine pz_lge (tgt := 38) hx hb d_MD_clear_30 d_MD_clear_31 (by decide) (fun c_10 => ?_) (fun c_10 => ?_)
  · refine lv_aload_n hx hb d_MD_clear_38 rfl (lv_at hl 0 rfl) ?_
    refine pz_get (ci := 10) (C := "PageMakerModel") (T := T_MD) (N := 26) hx hb htb in_MD hown hK hP (lm_in (by decide)) h_9 rfl 22 (by decide) (htb _ tw_704) (fun _ h9 => h9) rfl d_MD_clear_39 ?_
    refine pz_put (ci := 10) (v := .long (F.2.1.toInt64 - h.toInt64)) (ty := .long) (C := "PageMakerModel") (T := T_MD) (N := 26) hx hb htb in_MD ty_MD to_MD nm_MD hown hK hP hD hS (lm_in (by decide)) h_9 rfl 22 (by decide) (htb _ tw_704) (fun _ h9 => h9) rfl rfl rfl rfl (Nat.le_of_ble_eq_true rfl) d_MD_clear_42 (fun f11 H locs ef11 hP hD hS => ?_)
    have ef11 : f11 = va_up (mF G A (M.sj 0 (F.2.1.toInt64 - h.toInt64))) (A 0) (.inr (10, [.int M.th, .ref (A 1), .ref (A 2), .ref (A 3), .ref (A 4), .ref (A 5), .int M.ct, .int M.ht, .int M.tp, .int M.gr, .ref (A 6), .ref (A 7), .ref (A 8), .ref (A 9), .ref (A 10), .ref (A 11), .ref (A 12), .int M.pg, .int M.bg, .int M.io, .int M.be, .int M.le, .long (F.2.1.toInt64 - h.toInt64), .long M.dp, .ref (A 13), .long M.sh])) := ef11
    have ef11 : f11 = mF G A ((M.sj 0 (F.2.1.toInt64 - h.toInt64)).sj 0 (F.2.1.toInt64 - h.toInt64)) := ef11.trans (mf_o hA9 (M1 := (M.sj 0 (F.2.1.toInt64 - h.toInt64)).sj 0 (F.2.1.toInt64 - h.toInt64)) rfl rfl)
    subst ef11
    refine lv_aload_n hx hb d_MD_clear_45 rfl (lv_at hl 0 rfl) ?_
    refine lv_lconst (v := 0) hx hb d_MD_clear_46 rfl ?_
    have h_12 : mF G A ((M.sj 0 (F.2.1.toInt64 - h.toInt64)).sj 0 (F.2.1.toInt64 - h.toInt64)) (A 0) = .inr (10, [.int M.th, .ref (A 1), .ref (A 2), .ref (A 3), .ref (A 4), .ref (A 5), .int M.ct, .int M.ht, .int M.tp, .int M.gr, .ref (A 6), .ref (A 7), .ref (A 8), .ref (A 9), .ref (A 10), .ref (A 11), .ref (A 12), .int M.pg, .int M.bg, .int M.io, .int M.be, .int M.le, .long (F.2.1.toInt64 - h.toInt64), .long M.dp, .ref (A 13), .long M.sh]) := mf_at hA9 ((M.sj 0 (F.2.1.toInt64 - h.toInt64)).sj 0 (F.2.1.toInt64 - h.toInt64)) 0 (by decide)
    refine pz_put (ci := 10) (v := .long 0) (ty := .long) (C := "PageMakerModel") (T := T_MD) (N := 26) hx hb htb in_MD ty_MD to_MD nm_MD hown hK hP hD hS (lm_in (by decide)) h_12 rfl 23 (by decide) (htb _ tw_705) (fun _ h9 => h9) rfl rfl rfl rfl (Nat.le_of_ble_eq_true rfl) d_MD_clear_47 (fun f13 H locs ef13 hP hD hS => ?_)
    have ef13 : f13 = va_up (mF G A ((M.sj 0 (F.2.1.toInt64 - h.toInt64)).sj 0 (F.2.1.toInt64 - h.toInt64))) (A 0) (.inr (10, [.int M.th, .ref (A 1), .ref (A 2), .ref (A 3), .ref (A 4), .ref (A 5), .int M.ct, .int M.ht, .int M.tp, .int M.gr, .ref (A 6), .ref (A 7), .ref (A 8), .ref (A 9), .ref (A 10), .ref (A 11), .ref (A 12), .int M.pg, .int M.bg, .int M.io, .int M.be, .int M.le, .long (F.2.1.toInt64 - h.toInt64), .long 0, .ref (A 13), .long M.sh])) := ef13
    have ef13 : f13 = mF G A (((M.sj 0 (F.2.1.toInt64 - h.toInt64)).sj 0 (F.2.1.toInt64 - h.toInt64)).sj 1 0) := ef13.trans (mf_o hA9 (M1 := ((M.sj 0 (F.2.1.toInt64 - h.toInt64)).sj 0 (F.2.1.toInt64 - h.toInt64)).sj 1 0) rfl rfl)
    subst ef13
    refine lv_aload_n hx hb d_MD_clear_50 rfl (lv_at hl 0 rfl) ?_
    refine lv_lconst (v := 0) hx hb d_MD_clear_51 rfl ?_
    have h_14 : mF G A (((M.sj 0 (F.2.1.toInt64 - h.toInt64)).sj 0 (F.2.1.toInt64 - h.toInt64)).sj 1 0) (A 0) = .inr (10, [.int M.th, .ref (A 1), .ref (A 2), .ref (A 3), .ref (A 4), .ref (A 5), .int M.ct, .int M.ht, .int M.tp, .int M.gr, .ref (A 6), .ref (A 7), .ref (A 8), .ref (A 9), .ref (A 10), .ref (A 11), .ref (A 12), .int M.pg, .int M.bg, .int M.io, .int M.be, .int M.le, .long (F.2.1.toInt64 - h.toInt64), .long 0, .ref (A 13), .long M.sh]) := mf_at hA9 (((M.sj 0 (F.2.1.toInt64 - h.toInt64)).sj 0 (F.2.1.toInt64 - h.toInt64)).sj 1 0) 0 (by decide)
    refine pz_put (ci := 10) (v := .long 0) (ty := .long) (C := "PageMakerModel") (T := T_MD) (N := 26) hx hb htb in_MD ty_MD to_MD nm_MD hown hK hP hD hS (lm_in (by decide)) h_14 rfl 25 (by decide) (htb _ tw_707) (fun _ h9 => h9) rfl rfl rfl rfl (Nat.le_of_ble_eq_true rfl) d_MD_clear_52 (fun f15 H locs ef15 hP hD hS => ?_)
    have ef15 : f15 = va_up (mF G A (((M.sj 0 (F.2.1.toInt64 - h.toInt64)).sj 0 (F.2.1.toInt64 - h.toInt64)).sj 1 0)) (A 0) (.inr (10, [.int M.th, .ref (A 1), .ref (A 2), .ref (A 3), .ref (A 4), .ref (A 5), .int M.ct, .int M.ht, .int M.tp, .int M.gr, .ref (A 6), .ref (A 7), .ref (A 8), .ref (A 9), .ref (A 10), .ref (A 11), .ref (A 12), .int M.pg, .int M.bg, .int M.io, .int M.be, .int M.le, .long (F.2.1.toInt64 - h.toInt64), .long 0, .ref (A 13), .long 0])) := ef15
    have ef15 : f15 = mF G A ((((M.sj 0 (F.2.1.toInt64 - h.toInt64)).sj 0 (F.2.1.toInt64 - h.toInt64)).sj 1 0).sj 2 0) := ef15.trans (mf_o hA9 (M1 := (((M.sj 0 (F.2.1.toInt64 - h.toInt64)).sj 0 (F.2.1.toInt64 - h.toInt64)).sj 1 0).sj 2 0) rfl rfl)
    subst ef15
    refine lv_iconst (v := 0) hx hb d_MD_clear_55 (by decide) ?_
    refine lv_istore_n (lv' := [(2, .int 0), (0, .ref (A 0)), (1, .int (nI j))]) hx hb d_MD_clear_56 rfl hl (by decide) rfl (fun ls hl => ?_)
    refine lv_iload_n hx hb d_MD_clear_57 rfl (lv_at hl 0 rfl) ?_
    refine lv_iconst (v := 4) hx hb d_MD_clear_58 (by decide) ?_
    refine lv_icmp_ge (tgt := 75) hx hb d_MD_clear_59 (by decide) (fun c0 => absurd c0 (by decide)) (fun _ => ?_)
    refine lv_aload_n hx hb d_MD_clear_62 rfl (lv_at hl 1 rfl) ?_
    have h_16 : mF G A ((((M.sj 0 (F.2.1.toInt64 - h.toInt64)).sj 0 (F.2.1.toInt64 - h.toInt64)).sj 1 0).sj 2 0) (A 0) = .inr (10, [.int M.th, .ref (A 1), .ref (A 2), .ref (A 3), .ref (A 4), .ref (A 5), .int M.ct, .int M.ht, .int M.tp, .int M.gr, .ref (A 6), .ref (A 7), .ref (A 8), .ref (A 9), .ref (A 10), .ref (A 11), .ref (A 12), .int M.pg, .int M.bg, .int M.io, .int M.be, .int M.le, .long (F.2.1.toInt64 - h.toInt64), .long 0, .ref (A 13), .long 0]) := mf_at hA9 ((((M.sj 0 (F.2.1.toInt64 - h.toInt64)).sj 0 (F.2.1.toInt64 - h.toInt64)).sj 1 0).sj 2 0) 0 (by decide)
    refine pz_get (ci := 10) (C := "PageMakerModel") (T := T_MD) (N := 26) hx hb htb in_MD hown hK hP (lm_in (by decide)) h_16 rfl 24 (by decide) (htb _ tw_706) (fun _ h9 => h9) rfl d_MD_clear_63 ?_
    refine lv_iload_n hx hb d_MD_clear_66 rfl (lv_at hl 0 rfl) ?_
    refine lv_lconst (v := 0) hx hb d_MD_clear_67 rfl ?_
    have h_17 : mF G A ((((M.sj 0 (F.2.1.toInt64 - h.toInt64)).sj 0 (F.2.1.toInt64 - h.toInt64)).sj 1 0).sj 2 0) (A 13) = .inl (cJ G, 4, .inr (.inl M.g)) := mf_at hA9 ((((M.sj 0 (F.2.1.toInt64 - h.toInt64)).sj 0 (F.2.1.toInt64 - h.toInt64)).sj 1 0).sj 2 0) 13 (by decide)
    refine pz_lastN (j := 0) hx hb hK hP hD hS 1 (lm_in (by decide)) h_17 rfl (by decide) (by decide) d_MD_clear_68 (fun f18 H locs ef18 hP hD hS => ?_)
    have ef18 : f18 = mF G A (((((M.sj 0 (F.2.1.toInt64 - h.toInt64)).sj 0 (F.2.1.toInt64 - h.toInt64)).sj 1 0).sj 2 0).sg (vp_updL M.g 0 0)) := ef18.trans (mf_g hA9 (M := (((M.sj 0 (F.2.1.toInt64 - h.toInt64)).sj 0 (F.2.1.toInt64 - h.toInt64)).sj 1 0).sj 2 0))
    subst ef18
    refine lv_iinc (v := 1) (lv' := [(2, .int 1), (0, .ref (A 0)), (1, .int (nI j))]) hx hb d_MD_clear_69 hl (k := 0) rfl (by decide) (by decide) rfl (fun ls hl => ?_)
    refine lv_goto (tgt := 57) hx hb d_MD_clear_72 (by decide) ?_
    refine lv_iload_n hx hb d_MD_clear_57 rfl (lv_at hl 0 rfl) ?_
    refine lv_iconst (v := 4) hx hb d_MD_clear_58 (by decide) ?_
    refine lv_icmp_ge (tgt := 75) hx hb d_MD_clear_59 (by decide) (fun c0 => absurd c0 (by decide)) (fun _ => ?_)
    refine lv_aload_n hx hb d_MD_clear_62 rfl (lv_at hl 1 rfl) ?_
    have h_19 : mF G A (((((M.sj 0 (F.2.1.toInt64 - h.toInt64)).sj 0 (F.2.1.toInt64 - h.toInt64)).sj 1 0).sj 2 0).sg (vp_updL M.g 0 0)) (A 0) = .inr (10, [.int M.th, .ref (A 1), .ref (A 2), .ref (A 3), .ref (A 4), .ref (A 5), .int M.ct, .int M.ht, .int M.tp, .int M.gr, .ref (A 6), .ref (A 7), .ref (A 8), .ref (A 9), .ref (A 10), .ref (A 11), .ref (A 12), .int M.pg, .int M.bg, .int M.io, .int M.be, .int M.le, .long (F.2.1.toInt64 - h.toInt64), .long 0, .ref (A 13), .long 0]) := mf_at hA9 (((((M.sj 0 (F.2.1.toInt64 - h.toInt64)).sj 0 (F.2.1.toInt64 - h.toInt64)).sj 1 0).sj 2 0).sg (vp_updL M.g 0 0)) 0 (by decide)
    refine pz_get (ci := 10) (C := "PageMakerModel") (T := T_MD) (N := 26) hx hb htb in_MD hown hK hP (lm_in (by decide)) h_19 rfl 24 (by decide) (htb _ tw_706) (fun _ h9 => h9) rfl d_MD_clear_63 ?_
    refine lv_iload_n hx hb d_MD_clear_66 rfl (lv_at hl 0 rfl) ?_
    refine lv_lconst (v := 0) hx hb d_MD_clear_67 rfl ?_
    have h_20 : mF G A (((((M.sj 0 (F.2.1.toInt64 - h.toInt64)).sj 0 (F.2.1.toInt64 - h.toInt64)).sj 1 0).sj 2 0).sg (vp_updL M.g 0 0)) (A 13) = .inl (cJ G, 4, .inr (.inl (vp_updL M.g 0 0))) := mf_at hA9 (((((M.sj 0 (F.2.1.toInt64 - h.toInt64)).sj 0 (F.2.1.toInt64 - h.toInt64)).sj 1 0).sj 2 0).sg (vp_updL M.g 0 0)) 13 (by decide)
    refine pz_lastN (j := 1) hx hb hK hP hD hS 1 (lm_in (by decide)) h_20 rfl (by decide) (by decide) d_MD_clear_68 (fun f21 H locs ef21 hP hD hS => ?_)
    have ef21 : f21 = mF G A ((((((M.sj 0 (F.2.1.toInt64 - h.toInt64)).sj 0 (F.2.1.toInt64 - h.toInt64)).sj 1 0).sj 2 0).sg (vp_updL M.g 0 0)).sg (vp_updL (vp_updL M.g 0 0) 1 0)) := ef21.trans (mf_g hA9 (M := ((((M.sj 0 (F.2.1.toInt64 - h.toInt64)).sj 0 (F.2.1.toInt64 - h.toInt64)).sj 1 0).sj 2 0).sg (vp_updL M.g 0 0)))
    subst ef21
    refine lv_iinc (v := 2) (lv' := [(2, .int 2), (0, .ref (A 0)), (1, .int (nI j))]) hx hb d_MD_clear_69 hl (k := 0) rfl (by decide) (by decide) rfl (fun ls hl => ?_)
    refine lv_goto (tgt := 57) hx hb d_MD_clear_72 (by decide) ?_
    refine lv_iload_n hx hb d_MD_clear_57 rfl (lv_at hl 0 rfl) ?_
    refine lv_iconst (v := 4) hx hb d_MD_clear_58 (by decide) ?_
    refine lv_icmp_ge (tgt := 75) hx hb d_MD_clear_59 (by decide) (fun c0 => absurd c0 (by decide)) (fun _ => ?_)
    refine lv_aload_n hx hb d_MD_clear_62 rfl (lv_at hl 1 rfl) ?_
    have h_22 : mF G A ((((((M.sj 0 (F.2.1.toInt64 - h.toInt64)).sj 0 (F.2.1.toInt64 - h.toInt64)).sj 1 0).sj 2 0).sg (vp_updL M.g 0 0)).sg (vp_updL (vp_updL M.g 0 0) 1 0)) (A 0) = .inr (10, [.int M.th, .ref (A 1), .ref (A 2), .ref (A 3), .ref (A 4), .ref (A 5), .int M.ct, .int M.ht, .int M.tp, .int M.gr, .ref (A 6), .ref (A 7), .ref (A 8), .ref (A 9), .ref (A 10), .ref (A 11), .ref (A 12), .int M.pg, .int M.bg, .int M.io, .int M.be, .int M.le, .long (F.2.1.toInt64 - h.toInt64), .long 0, .ref (A 13), .long 0]) := mf_at hA9 ((((((M.sj 0 (F.2.1.toInt64 - h.toInt64)).sj 0 (F.2.1.toInt64 - h.toInt64)).sj 1 0).sj 2 0).sg (vp_updL M.g 0 0)).sg (vp_updL (vp_updL M.g 0 0) 1 0)) 0 (by decide)
    refine pz_get (ci := 10) (C := "PageMakerModel") (T := T_MD) (N := 26) hx hb htb in_MD hown hK hP (lm_in (by decide)) h_22 rfl 24 (by decide) (htb _ tw_706) (fun _ h9 => h9) rfl d_MD_clear_63 ?_
    refine lv_iload_n hx hb d_MD_clear_66 rfl (lv_at hl 0 rfl) ?_
    refine lv_lconst (v := 0) hx hb d_MD_clear_67 rfl ?_
    have h_23 : mF G A ((((((M.sj 0 (F.2.1.toInt64 - h.toInt64)).sj 0 (F.2.1.toInt64 - h.toInt64)).sj 1 0).sj 2 0).sg (vp_updL M.g 0 0)).sg (vp_updL (vp_updL M.g 0 0) 1 0)) (A 13) = .inl (cJ G, 4, .inr (.inl (vp_updL (vp_updL M.g 0 0) 1 0))) := mf_at hA9 ((((((M.sj 0 (F.2.1.toInt64 - h.toInt64)).sj 0 (F.2.1.toInt64 - h.toInt64)).sj 1 0).sj 2 0).sg (vp_updL M.g 0 0)).sg (vp_updL (vp_updL M.g 0 0) 1 0)) 13 (by decide)
    refine pz_lastN (j := 2) hx hb hK hP hD hS 1 (lm_in (by decide)) h_23 rfl (by decide) (by decide) d_MD_clear_68 (fun f24 H locs ef24 hP hD hS => ?_)
    have ef24 : f24 = mF G A (((((((M.sj 0 (F.2.1.toInt64 - h.toInt64)).sj 0 (F.2.1.toInt64 - h.toInt64)).sj 1 0).sj 2 0).sg (vp_updL M.g 0 0)).sg (vp_updL (vp_updL M.g 0 0) 1 0)).sg (vp_updL (vp_updL (vp_updL M.g 0 0) 1 0) 2 0)) := ef24.trans (mf_g hA9 (M := (((((M.sj 0 (F.2.1.toInt64 - h.toInt64)).sj 0 (F.2.1.toInt64 - h.toInt64)).sj 1 0).sj 2 0).sg (vp_updL M.g 0 0)).sg (vp_updL (vp_updL M.g 0 0) 1 0)))
    subst ef24
    refine lv_iinc (v := 3) (lv' := [(2, .int 3), (0, .ref (A 0)), (1, .int (nI j))]) hx hb d_MD_clear_69 hl (k := 0) rfl (by decide) (by decide) rfl (fun ls hl => ?_)
    refine lv_goto (tgt := 57) hx hb d_MD_clear_72 (by decide) ?_
    refine lv_iload_n hx hb d_MD_clear_57 rfl (lv_at hl 0 rfl) ?_
    refine lv_iconst (v := 4) hx hb d_MD_clear_58 (by decide) ?_
    refine lv_icmp_ge (tgt := 75) hx hb d_MD_clear_59 (by decide) (fun c0 => absurd c0 (by decide)) (fun _ => ?_)
    refine lv_aload_n hx hb d_MD_clear_62 rfl (lv_at hl 1 rfl) ?_
    have h_25 : mF G A (((((((M.sj 0 (F.2.1.toInt64 - h.toInt64)).sj 0 (F.2.1.toInt64 - h.toInt64)).sj 1 0).sj 2 0).sg (vp_updL M.g 0 0)).sg (vp_updL (vp_updL M.g 0 0) 1 0)).sg (vp_updL (vp_updL (vp_updL M.g 0 0) 1 0) 2 0)) (A 0) = .inr (10, [.int M.th, .ref (A 1), .ref (A 2), .ref (A 3), .ref (A 4), .ref (A 5), .int M.ct, .int M.ht, .int M.tp, .int M.gr, .ref (A 6), .ref (A 7), .ref (A 8), .ref (A 9), .ref (A 10), .ref (A 11), .ref (A 12), .int M.pg, .int M.bg, .int M.io, .int M.be, .int M.le, .long (F.2.1.toInt64 - h.toInt64), .long 0, .ref (A 13), .long 0]) := mf_at hA9 (((((((M.sj 0 (F.2.1.toInt64 - h.toInt64)).sj 0 (F.2.1.toInt64 - h.toInt64)).sj 1 0).sj 2 0).sg (vp_updL M.g 0 0)).sg (vp_updL (vp_updL M.g 0 0) 1 0)).sg (vp_updL (vp_updL (vp_updL M.g 0 0) 1 0) 2 0)) 0 (by decide)
    refine pz_get (ci := 10) (C := "PageMakerModel") (T := T_MD) (N := 26) hx hb htb in_MD hown hK hP (lm_in (by decide)) h_25 rfl 24 (by decide) (htb _ tw_706) (fun _ h9 => h9) rfl d_MD_clear_63 ?_
    refine lv_iload_n hx hb d_MD_clear_66 rfl (lv_at hl 0 rfl) ?_
    refine lv_lconst (v := 0) hx hb d_MD_clear_67 rfl ?_
    have h_26 : mF G A (((((((M.sj 0 (F.2.1.toInt64 - h.toInt64)).sj 0 (F.2.1.toInt64 - h.toInt64)).sj 1 0).sj 2 0).sg (vp_updL M.g 0 0)).sg (vp_updL (vp_updL M.g 0 0) 1 0)).sg (vp_updL (vp_updL (vp_updL M.g 0 0) 1 0) 2 0)) (A 13) = .inl (cJ G, 4, .inr (.inl (vp_updL (vp_updL (vp_updL M.g 0 0) 1 0) 2 0))) := mf_at hA9 (((((((M.sj 0 (F.2.1.toInt64 - h.toInt64)).sj 0 (F.2.1.toInt64 - h.toInt64)).sj 1 0).sj 2 0).sg (vp_updL M.g 0 0)).sg (vp_updL (vp_updL M.g 0 0) 1 0)).sg (vp_updL (vp_updL (vp_updL M.g 0 0) 1 0) 2 0)) 13 (by decide)
    refine pz_lastN (j := 3) hx hb hK hP hD hS 1 (lm_in (by decide)) h_26 rfl (by decide) (by decide) d_MD_clear_68 (fun f27 H locs ef27 hP hD hS => ?_)
    have ef27 : f27 = mF G A ((((((((M.sj 0 (F.2.1.toInt64 - h.toInt64)).sj 0 (F.2.1.toInt64 - h.toInt64)).sj 1 0).sj 2 0).sg (vp_updL M.g 0 0)).sg (vp_updL (vp_updL M.g 0 0) 1 0)).sg (vp_updL (vp_updL (vp_updL M.g 0 0) 1 0) 2 0)).sg (vp_updL (vp_updL (vp_updL (vp_updL M.g 0 0) 1 0) 2 0) 3 0)) := ef27.trans (mf_g hA9 (M := ((((((M.sj 0 (F.2.1.toInt64 - h.toInt64)).sj 0 (F.2.1.toInt64 - h.toInt64)).sj 1 0).sj 2 0).sg (vp_updL M.g 0 0)).sg (vp_updL (vp_updL M.g 0 0) 1 0)).sg (vp_updL (vp_updL (vp_updL M.g 0 0) 1 0) 2 0)))
    subst ef27
    refine lv_iinc (v := 4) (lv' := [(2, .int 4), (0, .ref (A 0)), (1, .int (nI j))]) hx hb d_MD_clear_69 hl (k := 0) rfl (by decide) (by decide) rfl (fun ls hl => ?_)
    refine lv_goto (tgt := 57) hx hb d_MD_clear_72 (by decide) ?_
    refine lv_iload_n hx hb d_MD_clear_57 rfl (lv_at hl 0 rfl) ?_
    refine lv_iconst (v := 4) hx hb d_MD_clear_58 (by decide) ?_
    refine lv_icmp_ge (tgt := 75) hx hb d_MD_clear_59 (by decide) (fun _ => ?_) (fun c0 => absurd c0 (by decide))
    exact pz_vret hx hb hr hlocks hK hP hD hS (Nat.le_of_ble_eq_true rfl) (Nat.le_of_ble_eq_true rfl) ⟨(((((((M.sj 0 (F.2.1.toInt64 - h.toInt64)).sj 0 (F.2.1.toInt64 - h.toInt64)).sj 1 0).sj 2 0).sg (vp_updL M.g 0 0)).sg (vp_updL (vp_updL M.g 0 0) 1 0)).sg (vp_updL (vp_updL (vp_updL M.g 0 0) 1 0) 2 0)).sg (vp_updL (vp_updL (vp_updL (vp_updL M.g 0 0) 1 0) 2 0) 3 0), rfl, ⟨rfl, rfl⟩, tv_clear (k_top_ge c_10)⟩ d_MD_clear_75
  · refine lv_lconst (v := 0) hx hb d_MD_clear_34 rfl ?_
    refine lv_goto (tgt := 42) hx hb d_MD_clear_35 (by decide) ?_
    refine pz_put (ci := 10) (v := .long 0) (ty := .long) (C := "PageMakerModel") (T := T_MD) (N := 26) hx hb htb in_MD ty_MD to_MD nm_MD hown hK hP hD hS (lm_in (by decide)) h_9 rfl 22 (by decide) (htb _ tw_704) (fun _ h9 => h9) rfl rfl rfl rfl (Nat.le_of_ble_eq_true rfl) d_MD_clear_42 (fun f28 H locs ef28 hP hD hS => ?_)
    have ef28 : f28 = va_up (mF G A (M.sj 0 (F.2.1.toInt64 - h.toInt64))) (A 0) (.inr (10, [.int M.th, .ref (A 1), .ref (A 2), .ref (A 3), .ref (A 4), .ref (A 5), .int M.ct, .int M.ht, .int M.tp, .int M.gr, .ref (A 6), .ref (A 7), .ref (A 8), .ref (A 9), .ref (A 10), .ref (A 11), .ref (A 12), .int M.pg, .int M.bg, .int M.io, .int M.be, .int M.le, .long 0, .long M.dp, .ref (A 13), .long M.sh])) := ef28
    have ef28 : f28 = mF G A ((M.sj 0 (F.2.1.toInt64 - h.toInt64)).sj 0 0) := ef28.trans (mf_o hA9 (M1 := (M.sj 0 (F.2.1.toInt64 - h.toInt64)).sj 0 0) rfl rfl)
    subst ef28
    refine lv_aload_n hx hb d_MD_clear_45 rfl (lv_at hl 0 rfl) ?_
    refine lv_lconst (v := 0) hx hb d_MD_clear_46 rfl ?_
    have h_29 : mF G A ((M.sj 0 (F.2.1.toInt64 - h.toInt64)).sj 0 0) (A 0) = .inr (10, [.int M.th, .ref (A 1), .ref (A 2), .ref (A 3), .ref (A 4), .ref (A 5), .int M.ct, .int M.ht, .int M.tp, .int M.gr, .ref (A 6), .ref (A 7), .ref (A 8), .ref (A 9), .ref (A 10), .ref (A 11), .ref (A 12), .int M.pg, .int M.bg, .int M.io, .int M.be, .int M.le, .long 0, .long M.dp, .ref (A 13), .long M.sh]) := mf_at hA9 ((M.sj 0 (F.2.1.toInt64 - h.toInt64)).sj 0 0) 0 (by decide)
    refine pz_put (ci := 10) (v := .long 0) (ty := .long) (C := "PageMakerModel") (T := T_MD) (N := 26) hx hb htb in_MD ty_MD to_MD nm_MD hown hK hP hD hS (lm_in (by decide)) h_29 rfl 23 (by decide) (htb _ tw_705) (fun _ h9 => h9) rfl rfl rfl rfl (Nat.le_of_ble_eq_true rfl) d_MD_clear_47 (fun f30 H locs ef30 hP hD hS => ?_)
    have ef30 : f30 = va_up (mF G A ((M.sj 0 (F.2.1.toInt64 - h.toInt64)).sj 0 0)) (A 0) (.inr (10, [.int M.th, .ref (A 1), .ref (A 2), .ref (A 3), .ref (A 4), .ref (A 5), .int M.ct, .int M.ht, .int M.tp, .int M.gr, .ref (A 6), .ref (A 7), .ref (A 8), .ref (A 9), .ref (A 10), .ref (A 11), .ref (A 12), .int M.pg, .int M.bg, .int M.io, .int M.be, .int M.le, .long 0, .long 0, .ref (A 13), .long M.sh])) := ef30
    have ef30 : f30 = mF G A (((M.sj 0 (F.2.1.toInt64 - h.toInt64)).sj 0 0).sj 1 0) := ef30.trans (mf_o hA9 (M1 := ((M.sj 0 (F.2.1.toInt64 - h.toInt64)).sj 0 0).sj 1 0) rfl rfl)
    subst ef30
    refine lv_aload_n hx hb d_MD_clear_50 rfl (lv_at hl 0 rfl) ?_
    refine lv_lconst (v := 0) hx hb d_MD_clear_51 rfl ?_
    have h_31 : mF G A (((M.sj 0 (F.2.1.toInt64 - h.toInt64)).sj 0 0).sj 1 0) (A 0) = .inr (10, [.int M.th, .ref (A 1), .ref (A 2), .ref (A 3), .ref (A 4), .ref (A 5), .int M.ct, .int M.ht, .int M.tp, .int M.gr, .ref (A 6), .ref (A 7), .ref (A 8), .ref (A 9), .ref (A 10), .ref (A 11), .ref (A 12), .int M.pg, .int M.bg, .int M.io, .int M.be, .int M.le, .long 0, .long 0, .ref (A 13), .long M.sh]) := mf_at hA9 (((M.sj 0 (F.2.1.toInt64 - h.toInt64)).sj 0 0).sj 1 0) 0 (by decide)
    refine pz_put (ci := 10) (v := .long 0) (ty := .long) (C := "PageMakerModel") (T := T_MD) (N := 26) hx hb htb in_MD ty_MD to_MD nm_MD hown hK hP hD hS (lm_in (by decide)) h_31 rfl 25 (by decide) (htb _ tw_707) (fun _ h9 => h9) rfl rfl rfl rfl (Nat.le_of_ble_eq_true rfl) d_MD_clear_52 (fun f32 H locs ef32 hP hD hS => ?_)
    have ef32 : f32 = va_up (mF G A (((M.sj 0 (F.2.1.toInt64 - h.toInt64)).sj 0 0).sj 1 0)) (A 0) (.inr (10, [.int M.th, .ref (A 1), .ref (A 2), .ref (A 3), .ref (A 4), .ref (A 5), .int M.ct, .int M.ht, .int M.tp, .int M.gr, .ref (A 6), .ref (A 7), .ref (A 8), .ref (A 9), .ref (A 10), .ref (A 11), .ref (A 12), .int M.pg, .int M.bg, .int M.io, .int M.be, .int M.le, .long 0, .long 0, .ref (A 13), .long 0])) := ef32
    have ef32 : f32 = mF G A ((((M.sj 0 (F.2.1.toInt64 - h.toInt64)).sj 0 0).sj 1 0).sj 2 0) := ef32.trans (mf_o hA9 (M1 := (((M.sj 0 (F.2.1.toInt64 - h.toInt64)).sj 0 0).sj 1 0).sj 2 0) rfl rfl)
    subst ef32
    refine lv_iconst (v := 0) hx hb d_MD_clear_55 (by decide) ?_
    refine lv_istore_n (lv' := [(2, .int 0), (0, .ref (A 0)), (1, .int (nI j))]) hx hb d_MD_clear_56 rfl hl (by decide) rfl (fun ls hl => ?_)
    refine lv_iload_n hx hb d_MD_clear_57 rfl (lv_at hl 0 rfl) ?_
    refine lv_iconst (v := 4) hx hb d_MD_clear_58 (by decide) ?_
    refine lv_icmp_ge (tgt := 75) hx hb d_MD_clear_59 (by decide) (fun c0 => absurd c0 (by decide)) (fun _ => ?_)
    refine lv_aload_n hx hb d_MD_clear_62 rfl (lv_at hl 1 rfl) ?_
    have h_33 : mF G A ((((M.sj 0 (F.2.1.toInt64 - h.toInt64)).sj 0 0).sj 1 0).sj 2 0) (A 0) = .inr (10, [.int M.th, .ref (A 1), .ref (A 2), .ref (A 3), .ref (A 4), .ref (A 5), .int M.ct, .int M.ht, .int M.tp, .int M.gr, .ref (A 6), .ref (A 7), .ref (A 8), .ref (A 9), .ref (A 10), .ref (A 11), .ref (A 12), .int M.pg, .int M.bg, .int M.io, .int M.be, .int M.le, .long 0, .long 0, .ref (A 13), .long 0]) := mf_at hA9 ((((M.sj 0 (F.2.1.toInt64 - h.toInt64)).sj 0 0).sj 1 0).sj 2 0) 0 (by decide)
    refine pz_get (ci := 10) (C := "PageMakerModel") (T := T_MD) (N := 26) hx hb htb in_MD hown hK hP (lm_in (by decide)) h_33 rfl 24 (by decide) (htb _ tw_706) (fun _ h9 => h9) rfl d_MD_clear_63 ?_
    refine lv_iload_n hx hb d_MD_clear_66 rfl (lv_at hl 0 rfl) ?_
    refine lv_lconst (v := 0) hx hb d_MD_clear_67 rfl ?_
    have h_34 : mF G A ((((M.sj 0 (F.2.1.toInt64 - h.toInt64)).sj 0 0).sj 1 0).sj 2 0) (A 13) = .inl (cJ G, 4, .inr (.inl M.g)) := mf_at hA9 ((((M.sj 0 (F.2.1.toInt64 - h.toInt64)).sj 0 0).sj 1 0).sj 2 0) 13 (by decide)
    refine pz_lastN (j := 0) hx hb hK hP hD hS 1 (lm_in (by decide)) h_34 rfl (by decide) (by decide) d_MD_clear_68 (fun f35 H locs ef35 hP hD hS => ?_)
    have ef35 : f35 = mF G A (((((M.sj 0 (F.2.1.toInt64 - h.toInt64)).sj 0 0).sj 1 0).sj 2 0).sg (vp_updL M.g 0 0)) := ef35.trans (mf_g hA9 (M := (((M.sj 0 (F.2.1.toInt64 - h.toInt64)).sj 0 0).sj 1 0).sj 2 0))
    subst ef35
    refine lv_iinc (v := 1) (lv' := [(2, .int 1), (0, .ref (A 0)), (1, .int (nI j))]) hx hb d_MD_clear_69 hl (k := 0) rfl (by decide) (by decide) rfl (fun ls hl => ?_)
    refine lv_goto (tgt := 57) hx hb d_MD_clear_72 (by decide) ?_
    refine lv_iload_n hx hb d_MD_clear_57 rfl (lv_at hl 0 rfl) ?_
    refine lv_iconst (v := 4) hx hb d_MD_clear_58 (by decide) ?_
    refine lv_icmp_ge (tgt := 75) hx hb d_MD_clear_59 (by decide) (fun c0 => absurd c0 (by decide)) (fun _ => ?_)
    refine lv_aload_n hx hb d_MD_clear_62 rfl (lv_at hl 1 rfl) ?_
    have h_36 : mF G A (((((M.sj 0 (F.2.1.toInt64 - h.toInt64)).sj 0 0).sj 1 0).sj 2 0).sg (vp_updL M.g 0 0)) (A 0) = .inr (10, [.int M.th, .ref (A 1), .ref (A 2), .ref (A 3), .ref (A 4), .ref (A 5), .int M.ct, .int M.ht, .int M.tp, .int M.gr, .ref (A 6), .ref (A 7), .ref (A 8), .ref (A 9), .ref (A 10), .ref (A 11), .ref (A 12), .int M.pg, .int M.bg, .int M.io, .int M.be, .int M.le, .long 0, .long 0, .ref (A 13), .long 0]) := mf_at hA9 (((((M.sj 0 (F.2.1.toInt64 - h.toInt64)).sj 0 0).sj 1 0).sj 2 0).sg (vp_updL M.g 0 0)) 0 (by decide)
    refine pz_get (ci := 10) (C := "PageMakerModel") (T := T_MD) (N := 26) hx hb htb in_MD hown hK hP (lm_in (by decide)) h_36 rfl 24 (by decide) (htb _ tw_706) (fun _ h9 => h9) rfl d_MD_clear_63 ?_
    refine lv_iload_n hx hb d_MD_clear_66 rfl (lv_at hl 0 rfl) ?_
    refine lv_lconst (v := 0) hx hb d_MD_clear_67 rfl ?_
    have h_37 : mF G A (((((M.sj 0 (F.2.1.toInt64 - h.toInt64)).sj 0 0).sj 1 0).sj 2 0).sg (vp_updL M.g 0 0)) (A 13) = .inl (cJ G, 4, .inr (.inl (vp_updL M.g 0 0))) := mf_at hA9 (((((M.sj 0 (F.2.1.toInt64 - h.toInt64)).sj 0 0).sj 1 0).sj 2 0).sg (vp_updL M.g 0 0)) 13 (by decide)
    refine pz_lastN (j := 1) hx hb hK hP hD hS 1 (lm_in (by decide)) h_37 rfl (by decide) (by decide) d_MD_clear_68 (fun f38 H locs ef38 hP hD hS => ?_)
    have ef38 : f38 = mF G A ((((((M.sj 0 (F.2.1.toInt64 - h.toInt64)).sj 0 0).sj 1 0).sj 2 0).sg (vp_updL M.g 0 0)).sg (vp_updL (vp_updL M.g 0 0) 1 0)) := ef38.trans (mf_g hA9 (M := ((((M.sj 0 (F.2.1.toInt64 - h.toInt64)).sj 0 0).sj 1 0).sj 2 0).sg (vp_updL M.g 0 0)))
    subst ef38
    refine lv_iinc (v := 2) (lv' := [(2, .int 2), (0, .ref (A 0)), (1, .int (nI j))]) hx hb d_MD_clear_69 hl (k := 0) rfl (by decide) (by decide) rfl (fun ls hl => ?_)
    refine lv_goto (tgt := 57) hx hb d_MD_clear_72 (by decide) ?_
    refine lv_iload_n hx hb d_MD_clear_57 rfl (lv_at hl 0 rfl) ?_
    refine lv_iconst (v := 4) hx hb d_MD_clear_58 (by decide) ?_
    refine lv_icmp_ge (tgt := 75) hx hb d_MD_clear_59 (by decide) (fun c0 => absurd c0 (by decide)) (fun _ => ?_)
    refine lv_aload_n hx hb d_MD_clear_62 rfl (lv_at hl 1 rfl) ?_
    have h_39 : mF G A ((((((M.sj 0 (F.2.1.toInt64 - h.toInt64)).sj 0 0).sj 1 0).sj 2 0).sg (vp_updL M.g 0 0)).sg (vp_updL (vp_updL M.g 0 0) 1 0)) (A 0) = .inr (10, [.int M.th, .ref (A 1), .ref (A 2), .ref (A 3), .ref (A 4), .ref (A 5), .int M.ct, .int M.ht, .int M.tp, .int M.gr, .ref (A 6), .ref (A 7), .ref (A 8), .ref (A 9), .ref (A 10), .ref (A 11), .ref (A 12), .int M.pg, .int M.bg, .int M.io, .int M.be, .int M.le, .long 0, .long 0, .ref (A 13), .long 0]) := mf_at hA9 ((((((M.sj 0 (F.2.1.toInt64 - h.toInt64)).sj 0 0).sj 1 0).sj 2 0).sg (vp_updL M.g 0 0)).sg (vp_updL (vp_updL M.g 0 0) 1 0)) 0 (by decide)
    refine pz_get (ci := 10) (C := "PageMakerModel") (T := T_MD) (N := 26) hx hb htb in_MD hown hK hP (lm_in (by decide)) h_39 rfl 24 (by decide) (htb _ tw_706) (fun _ h9 => h9) rfl d_MD_clear_63 ?_
    refine lv_iload_n hx hb d_MD_clear_66 rfl (lv_at hl 0 rfl) ?_
    refine lv_lconst (v := 0) hx hb d_MD_clear_67 rfl ?_
    have h_40 : mF G A ((((((M.sj 0 (F.2.1.toInt64 - h.toInt64)).sj 0 0).sj 1 0).sj 2 0).sg (vp_updL M.g 0 0)).sg (vp_updL (vp_updL M.g 0 0) 1 0)) (A 13) = .inl (cJ G, 4, .inr (.inl (vp_updL (vp_updL M.g 0 0) 1 0))) := mf_at hA9 ((((((M.sj 0 (F.2.1.toInt64 - h.toInt64)).sj 0 0).sj 1 0).sj 2 0).sg (vp_updL M.g 0 0)).sg (vp_updL (vp_updL M.g 0 0) 1 0)) 13 (by decide)
    refine pz_lastN (j := 2) hx hb hK hP hD hS 1 (lm_in (by decide)) h_40 rfl (by decide) (by decide) d_MD_clear_68 (fun f41 H locs ef41 hP hD hS => ?_)
    have ef41 : f41 = mF G A (((((((M.sj 0 (F.2.1.toInt64 - h.toInt64)).sj 0 0).sj 1 0).sj 2 0).sg (vp_updL M.g 0 0)).sg (vp_updL (vp_updL M.g 0 0) 1 0)).sg (vp_updL (vp_updL (vp_updL M.g 0 0) 1 0) 2 0)) := ef41.trans (mf_g hA9 (M := (((((M.sj 0 (F.2.1.toInt64 - h.toInt64)).sj 0 0).sj 1 0).sj 2 0).sg (vp_updL M.g 0 0)).sg (vp_updL (vp_updL M.g 0 0) 1 0)))
    subst ef41
    refine lv_iinc (v := 3) (lv' := [(2, .int 3), (0, .ref (A 0)), (1, .int (nI j))]) hx hb d_MD_clear_69 hl (k := 0) rfl (by decide) (by decide) rfl (fun ls hl => ?_)
    refine lv_goto (tgt := 57) hx hb d_MD_clear_72 (by decide) ?_
    refine lv_iload_n hx hb d_MD_clear_57 rfl (lv_at hl 0 rfl) ?_
    refine lv_iconst (v := 4) hx hb d_MD_clear_58 (by decide) ?_
    refine lv_icmp_ge (tgt := 75) hx hb d_MD_clear_59 (by decide) (fun c0 => absurd c0 (by decide)) (fun _ => ?_)
    refine lv_aload_n hx hb d_MD_clear_62 rfl (lv_at hl 1 rfl) ?_
    have h_42 : mF G A (((((((M.sj 0 (F.2.1.toInt64 - h.toInt64)).sj 0 0).sj 1 0).sj 2 0).sg (vp_updL M.g 0 0)).sg (vp_updL (vp_updL M.g 0 0) 1 0)).sg (vp_updL (vp_updL (vp_updL M.g 0 0) 1 0) 2 0)) (A 0) = .inr (10, [.int M.th, .ref (A 1), .ref (A 2), .ref (A 3), .ref (A 4), .ref (A 5), .int M.ct, .int M.ht, .int M.tp, .int M.gr, .ref (A 6), .ref (A 7), .ref (A 8), .ref (A 9), .ref (A 10), .ref (A 11), .ref (A 12), .int M.pg, .int M.bg, .int M.io, .int M.be, .int M.le, .long 0, .long 0, .ref (A 13), .long 0]) := mf_at hA9 (((((((M.sj 0 (F.2.1.toInt64 - h.toInt64)).sj 0 0).sj 1 0).sj 2 0).sg (vp_updL M.g 0 0)).sg (vp_updL (vp_updL M.g 0 0) 1 0)).sg (vp_updL (vp_updL (vp_updL M.g 0 0) 1 0) 2 0)) 0 (by decide)
    refine pz_get (ci := 10) (C := "PageMakerModel") (T := T_MD) (N := 26) hx hb htb in_MD hown hK hP (lm_in (by decide)) h_42 rfl 24 (by decide) (htb _ tw_706) (fun _ h9 => h9) rfl d_MD_clear_63 ?_
    refine lv_iload_n hx hb d_MD_clear_66 rfl (lv_at hl 0 rfl) ?_
    refine lv_lconst (v := 0) hx hb d_MD_clear_67 rfl ?_
    have h_43 : mF G A (((((((M.sj 0 (F.2.1.toInt64 - h.toInt64)).sj 0 0).sj 1 0).sj 2 0).sg (vp_updL M.g 0 0)).sg (vp_updL (vp_updL M.g 0 0) 1 0)).sg (vp_updL (vp_updL (vp_updL M.g 0 0) 1 0) 2 0)) (A 13) = .inl (cJ G, 4, .inr (.inl (vp_updL (vp_updL (vp_updL M.g 0 0) 1 0) 2 0))) := mf_at hA9 (((((((M.sj 0 (F.2.1.toInt64 - h.toInt64)).sj 0 0).sj 1 0).sj 2 0).sg (vp_updL M.g 0 0)).sg (vp_updL (vp_updL M.g 0 0) 1 0)).sg (vp_updL (vp_updL (vp_updL M.g 0 0) 1 0) 2 0)) 13 (by decide)
    refine pz_lastN (j := 3) hx hb hK hP hD hS 1 (lm_in (by decide)) h_43 rfl (by decide) (by decide) d_MD_clear_68 (fun f44 H locs ef44 hP hD hS => ?_)
    have ef44 : f44 = mF G A ((((((((M.sj 0 (F.2.1.toInt64 - h.toInt64)).sj 0 0).sj 1 0).sj 2 0).sg (vp_updL M.g 0 0)).sg (vp_updL (vp_updL M.g 0 0) 1 0)).sg (vp_updL (vp_updL (vp_updL M.g 0 0) 1 0) 2 0)).sg (vp_updL (vp_updL (vp_updL (vp_updL M.g 0 0) 1 0) 2 0) 3 0)) := ef44.trans (mf_g hA9 (M := ((((((M.sj 0 (F.2.1.toInt64 - h.toInt64)).sj 0 0).sj 1 0).sj 2 0).sg (vp_updL M.g 0 0)).sg (vp_updL (vp_updL M.g 0 0) 1 0)).sg (vp_updL (vp_updL (vp_updL M.g 0 0) 1 0) 2 0)))
    subst ef44
    refine lv_iinc (v := 4) (lv' := [(2, .int 4), (0, .ref (A 0)), (1, .int (nI j))]) hx hb d_MD_clear_69 hl (k := 0) rfl (by decide) (by decide) rfl (fun ls hl => ?_)
    refine lv_goto (tgt := 57) hx hb d_MD_clear_72 (by decide) ?_
    refine lv_iload_n hx hb d_MD_clear_57 rfl (lv_at hl 0 rfl) ?_
    refine lv_iconst (v := 4) hx hb d_MD_clear_58 (by decide) ?_
    refine lv_icmp_ge (tgt := 75) hx hb d_MD_clear_59 (by decide) (fun _ => ?_) (fun c0 => absurd c0 (by decide))
    exact pz_vret hx hb hr hlocks hK hP hD hS (Nat.le_of_ble_eq_true rfl) (Nat.le_of_ble_eq_true rfl) ⟨(((((((M.sj 0 (F.2.1.toInt64 - h.toInt64)).sj 0 0).sj 1 0).sj 2 0).sg (vp_updL M.g 0 0)).sg (vp_updL (vp_updL M.g 0 0) 1 0)).sg (vp_updL (vp_updL (vp_updL M.g 0 0) 1 0) 2 0)).sg (vp_updL (vp_updL (vp_updL (vp_updL M.g 0 0) 1 0) 2 0) 3 0), rfl, ⟨rfl, rfl⟩, tv_clear (k_top_lt c_10)⟩ d_MD_clear_75
set_option maxHeartbeats 4000000 in
set_option maxRecDepth 100000 in
/-- model: add -/
theorem c_MD_add (l : Launch) (G : gG) (A : Nat → Nat) (hA9 : mJn A) (M : MS) (sz : Nat) (T : Tt) (j k : Nat) (gg : Int32) (it : It) (hj : j ≤ 2000) (hk : k < 2000) (hd : M.ds j = gg) (hi : itM M.r k it) (hok : itOK it) (hT : TM M T) : mV l y_MD_add w_MD_add ({ frames := 0, cells := 0, slots := 0, locals := 0 }) G (LM A) (mF G A M) sz [.ref (A 0), .int (nI j), .int (nI k)] 0 0 (fun u => ∃ M1, u = (LM A, mF G A M1) ∧ MK M1 M ∧ TM M1 (t_add it gg T)) := by
  refine pz_met (cc := prog_12_method_7_code) (maxL := 3) (ret := none) (by decide) rfl (Nat.le_of_ble_eq_true rfl) ?_
  intro p e s m below meth c ls hx hb hr hml hts hown hlocks hin hsz hK hP hD hS hA hz hl
  have htb : ∀ w ∈ TB, w.before _ s = true := fun w h => hts w (List.mem_cons_of_mem _ h)
  have hl : lv_has ls 3 [(0, .ref (A 0)), (1, .int (nI j)), (2, .int (nI k))] := hl
  rcases it with ⟨ia, ib⟩ | ⟨ia, ib, io, id9⟩ | ia | ia
  · have hi : itM M.r k (.inl (ia, ib)) := hi
    refine lv_aload_n hx hb d_MD_add_0 rfl (lv_at hl 0 rfl) ?_
    have h_1 : mF G A M (A 0) = .inr (10, [.int M.th, .ref (A 1), .ref (A 2), .ref (A 3), .ref (A 4), .ref (A 5), .int M.ct, .int M.ht, .int M.tp, .int M.gr, .ref (A 6), .ref (A 7), .ref (A 8), .ref (A 9), .ref (A 10), .ref (A 11), .ref (A 12), .int M.pg, .int M.bg, .int M.io, .int M.be, .int M.le, .long M.ln, .long M.dp, .ref (A 13), .long M.sh]) := mf_at hA9 M 0 (by decide)
    refine pz_get (ci := 10) (C := "PageMakerModel") (T := T_MD) (N := 26) hx hb htb in_MD hown hK hP (lm_in (by decide)) h_1 rfl 1 (by decide) (htb _ tw_683) (fun _ h9 => h9) rfl d_MD_add_1 ?_
    refine lv_iload_n hx hb d_MD_add_4 rfl (lv_at hl 2 rfl) ?_
    have h_2 : mF G A M (A 1) = .inl (cI G, 2000, .inl M.kd) := mf_at hA9 M 1 (by decide)
    refine pz_iald (j := k) hx hb hK hP 0 (lm_in (by decide)) h_2 rfl (by omega) (by decide) d_MD_add_5 ?_
    refine lv_topi (fun x3 ex3 => ?_)
    have ex3 : x3 = 0 := ex3.trans (hi.1)
    subst ex3
    refine lv_if_ne (tgt := 88) hx hb d_MD_add_6 (by decide) (fun c0 => absurd c0 (by decide)) (fun _ => ?_)
    refine lv_aload_n hx hb d_MD_add_9 rfl (lv_at hl 0 rfl) ?_
    refine lv_aload_n hx hb d_MD_add_10 rfl (lv_at hl 0 rfl) ?_
    refine pz_get (ci := 10) (C := "PageMakerModel") (T := T_MD) (N := 26) hx hb htb in_MD hown hK hP (lm_in (by decide)) h_1 rfl 22 (by decide) (htb _ tw_704) (fun _ h9 => h9) rfl d_MD_add_11 ?_
    refine lv_aload_n hx hb d_MD_add_14 rfl (lv_at hl 0 rfl) ?_
    refine pz_get (ci := 10) (C := "PageMakerModel") (T := T_MD) (N := 26) hx hb htb in_MD hown hK hP (lm_in (by decide)) h_1 rfl 23 (by decide) (htb _ tw_705) (fun _ h9 => h9) rfl d_MD_add_15 ?_
    refine lv_ladd hx hb d_MD_add_18 ?_
    refine lv_aload_n hx hb d_MD_add_19 rfl (lv_at hl 0 rfl) ?_
    refine pz_get (ci := 10) (C := "PageMakerModel") (T := T_MD) (N := 26) hx hb htb in_MD hown hK hP (lm_in (by decide)) h_1 rfl 3 (by decide) (htb _ tw_685) (fun _ h9 => h9) rfl d_MD_add_20 ?_
    refine lv_iload_n hx hb d_MD_add_23 rfl (lv_at hl 2 rfl) ?_
    have h_4 : mF G A M (A 3) = .inl (cI G, 2000, .inl M.tw) := mf_at hA9 M 3 (by decide)
    refine pz_iald (j := k) hx hb hK hP 0 (lm_in (by decide)) h_4 rfl (by omega) (by decide) d_MD_add_24 ?_
    refine lv_topi (fun x5 ex5 => ?_)
    have ex5 : x5 = ia := ex5.trans (hi.2.1)
    rw [ex5]
    refine lv_i2l hx hb d_MD_add_25 rfl ?_
    refine lv_ladd hx hb d_MD_add_26 ?_
    refine pz_put (ci := 10) (v := .long ((M.ln + M.dp) + ia.toInt64)) (ty := .long) (C := "PageMakerModel") (T := T_MD) (N := 26) hx hb htb in_MD ty_MD to_MD nm_MD hown hK hP hD hS (lm_in (by decide)) h_1 rfl 22 (by decide) (htb _ tw_704) (fun _ h9 => h9) rfl rfl rfl rfl (Nat.le_of_ble_eq_true rfl) d_MD_add_27 (fun f6 H locs ef6 hP hD hS => ?_)
    have ef6 : f6 = va_up (mF G A M) (A 0) (.inr (10, [.int M.th, .ref (A 1), .ref (A 2), .ref (A 3), .ref (A 4), .ref (A 5), .int M.ct, .int M.ht, .int M.tp, .int M.gr, .ref (A 6), .ref (A 7), .ref (A 8), .ref (A 9), .ref (A 10), .ref (A 11), .ref (A 12), .int M.pg, .int M.bg, .int M.io, .int M.be, .int M.le, .long ((M.ln + M.dp) + ia.toInt64), .long M.dp, .ref (A 13), .long M.sh])) := ef6
    have ef6 : f6 = mF G A (M.sj 0 ((M.ln + M.dp) + ia.toInt64)) := ef6.trans (mf_o hA9 (M1 := M.sj 0 ((M.ln + M.dp) + ia.toInt64)) rfl rfl)
    subst ef6
    refine lv_aload_n hx hb d_MD_add_30 rfl (lv_at hl 0 rfl) ?_
    refine lv_aload_n hx hb d_MD_add_31 rfl (lv_at hl 0 rfl) ?_
    have h_7 : mF G A (M.sj 0 ((M.ln + M.dp) + ia.toInt64)) (A 0) = .inr (10, [.int M.th, .ref (A 1), .ref (A 2), .ref (A 3), .ref (A 4), .ref (A 5), .int M.ct, .int M.ht, .int M.tp, .int M.gr, .ref (A 6), .ref (A 7), .ref (A 8), .ref (A 9), .ref (A 10), .ref (A 11), .ref (A 12), .int M.pg, .int M.bg, .int M.io, .int M.be, .int M.le, .long ((M.ln + M.dp) + ia.toInt64), .long M.dp, .ref (A 13), .long M.sh]) := mf_at hA9 (M.sj 0 ((M.ln + M.dp) + ia.toInt64)) 0 (by decide)
    refine pz_get (ci := 10) (C := "PageMakerModel") (T := T_MD) (N := 26) hx hb htb in_MD hown hK hP (lm_in (by decide)) h_7 rfl 4 (by decide) (htb _ tw_686) (fun _ h9 => h9) rfl d_MD_add_32 ?_
    refine lv_iload_n hx hb d_MD_add_35 rfl (lv_at hl 2 rfl) ?_
    have h_8 : mF G A (M.sj 0 ((M.ln + M.dp) + ia.toInt64)) (A 4) = .inl (cI G, 2000, .inl M.te) := mf_at hA9 (M.sj 0 ((M.ln + M.dp) + ia.toInt64)) 4 (by decide)
    refine pz_iald (j := k) hx hb hK hP 0 (lm_in (by decide)) h_8 rfl (by omega) (by decide) d_MD_add_36 ?_
    refine lv_topi (fun x9 ex9 => ?_)
    have ex9 : x9 = ib := ex9.trans (hi.2.2)
    rw [ex9]
    refine lv_i2l hx hb d_MD_add_37 rfl ?_
    refine pz_put (ci := 10) (v := .long ib.toInt64) (ty := .long) (C := "PageMakerModel") (T := T_MD) (N := 26) hx hb htb in_MD ty_MD to_MD nm_MD hown hK hP hD hS (lm_in (by decide)) h_7 rfl 23 (by decide) (htb _ tw_705) (fun _ h9 => h9) rfl rfl rfl rfl (Nat.le_of_ble_eq_true rfl) d_MD_add_38 (fun f10 H locs ef10 hP hD hS => ?_)
    have ef10 : f10 = va_up (mF G A (M.sj 0 ((M.ln + M.dp) + ia.toInt64))) (A 0) (.inr (10, [.int M.th, .ref (A 1), .ref (A 2), .ref (A 3), .ref (A 4), .ref (A 5), .int M.ct, .int M.ht, .int M.tp, .int M.gr, .ref (A 6), .ref (A 7), .ref (A 8), .ref (A 9), .ref (A 10), .ref (A 11), .ref (A 12), .int M.pg, .int M.bg, .int M.io, .int M.be, .int M.le, .long ((M.ln + M.dp) + ia.toInt64), .long ib.toInt64, .ref (A 13), .long M.sh])) := ef10
    have ef10 : f10 = mF G A ((M.sj 0 ((M.ln + M.dp) + ia.toInt64)).sj 1 ib.toInt64) := ef10.trans (mf_o hA9 (M1 := (M.sj 0 ((M.ln + M.dp) + ia.toInt64)).sj 1 ib.toInt64) rfl rfl)
    subst ef10
    refine lv_aload_n hx hb d_MD_add_41 rfl (lv_at hl 0 rfl) ?_
    have h_11 : mF G A ((M.sj 0 ((M.ln + M.dp) + ia.toInt64)).sj 1 ib.toInt64) (A 0) = .inr (10, [.int M.th, .ref (A 1), .ref (A 2), .ref (A 3), .ref (A 4), .ref (A 5), .int M.ct, .int M.ht, .int M.tp, .int M.gr, .ref (A 6), .ref (A 7), .ref (A 8), .ref (A 9), .ref (A 10), .ref (A 11), .ref (A 12), .int M.pg, .int M.bg, .int M.io, .int M.be, .int M.le, .long ((M.ln + M.dp) + ia.toInt64), .long ib.toInt64, .ref (A 13), .long M.sh]) := mf_at hA9 ((M.sj 0 ((M.ln + M.dp) + ia.toInt64)).sj 1 ib.toInt64) 0 (by decide)
    refine pz_get (ci := 10) (C := "PageMakerModel") (T := T_MD) (N := 26) hx hb htb in_MD hown hK hP (lm_in (by decide)) h_11 rfl 23 (by decide) (htb _ tw_705) (fun _ h9 => h9) rfl d_MD_add_42 ?_
    refine lv_aload_n hx hb d_MD_add_45 rfl (lv_at hl 0 rfl) ?_
    refine pz_get (ci := 10) (C := "PageMakerModel") (T := T_MD) (N := 26) hx hb htb in_MD hown hK hP (lm_in (by decide)) h_11 rfl 12 (by decide) (htb _ tw_694) (fun _ h9 => h9) rfl d_MD_add_46 ?_
    refine lv_iload_n hx hb d_MD_add_49 rfl (lv_at hl 1 rfl) ?_
    have h_12 : mF G A ((M.sj 0 ((M.ln + M.dp) + ia.toInt64)).sj 1 ib.toInt64) (A 8) = .inl (cI G, 2001, .inl M.ds) := mf_at hA9 ((M.sj 0 ((M.ln + M.dp) + ia.toInt64)).sj 1 ib.toInt64) 8 (by decide)
    refine pz_iald (j := j) hx hb hK hP 0 (lm_in (by decide)) h_12 rfl (by omega) (by decide) d_MD_add_50 ?_
    refine lv_topi (fun x13 ex13 => ?_)
    have ex13 : x13 = gg := ex13.trans (hd)
    rw [ex13]
    refine lv_i2l hx hb d_MD_add_51 rfl ?_
    refine pz_lle (tgt := 88) hx hb d_MD_add_52 d_MD_add_53 (by decide) (fun c_14 => ?_) (fun c_14 => ?_)
    · refine lv_aload_n hx hb d_MD_add_88 rfl (lv_at hl 0 rfl) ?_
      refine pz_get (ci := 10) (C := "PageMakerModel") (T := T_MD) (N := 26) hx hb htb in_MD hown hK hP (lm_in (by decide)) h_11 rfl 1 (by decide) (htb _ tw_683) (fun _ h9 => h9) rfl d_MD_add_89 ?_
      refine lv_iload_n hx hb d_MD_add_92 rfl (lv_at hl 2 rfl) ?_
      have h_15 : mF G A ((M.sj 0 ((M.ln + M.dp) + ia.toInt64)).sj 1 ib.toInt64) (A 1) = .inl (cI G, 2000, .inl M.kd) := mf_at hA9 ((M.sj 0 ((M.ln + M.dp) + ia.toInt64)).sj 1 ib.toInt64) 1 (by decide)
      refine pz_iald (j := k) hx hb hK hP 0 (lm_in (by decide)) h_15 rfl (by omega) (by decide) d_MD_add_93 ?_
      refine lv_topi (fun x16 ex16 => ?_)
      have ex16 : x16 = 0 := ex16.trans (hi.1)
      subst ex16
      refine lv_iconst (v := 1) hx hb d_MD_add_94 (by decide) ?_
      refine lv_icmp_eq (tgt := 108) hx hb d_MD_add_95 (by decide) (fun c0 => absurd c0 (by decide)) (fun _ => ?_)
      refine lv_aload_n hx hb d_MD_add_98 rfl (lv_at hl 0 rfl) ?_
      refine pz_get (ci := 10) (C := "PageMakerModel") (T := T_MD) (N := 26) hx hb htb in_MD hown hK hP (lm_in (by decide)) h_11 rfl 1 (by decide) (htb _ tw_683) (fun _ h9 => h9) rfl d_MD_add_99 ?_
      refine lv_iload_n hx hb d_MD_add_102 rfl (lv_at hl 2 rfl) ?_
      refine pz_iald (j := k) hx hb hK hP 0 (lm_in (by decide)) h_15 rfl (by omega) (by decide) d_MD_add_103 ?_
      refine lv_topi (fun x17 ex17 => ?_)
      have ex17 : x17 = 0 := ex17.trans (hi.1)
      subst ex17
      refine lv_iconst (v := 2) hx hb d_MD_add_104 (by decide) ?_
      refine lv_icmp_ne (tgt := 134) hx hb d_MD_add_105 (by decide) (fun _ => ?_) (fun c0 => absurd c0 (by decide))
      refine lv_aload_n hx hb d_MD_add_134 rfl (lv_at hl 0 rfl) ?_
      refine pz_get (ci := 10) (C := "PageMakerModel") (T := T_MD) (N := 26) hx hb htb in_MD hown hK hP (lm_in (by decide)) h_11 rfl 1 (by decide) (htb _ tw_683) (fun _ h9 => h9) rfl d_MD_add_135 ?_
      refine lv_iload_n hx hb d_MD_add_138 rfl (lv_at hl 2 rfl) ?_
      refine pz_iald (j := k) hx hb hK hP 0 (lm_in (by decide)) h_15 rfl (by omega) (by decide) d_MD_add_139 ?_
      refine lv_topi (fun x18 ex18 => ?_)
      have ex18 : x18 = 0 := ex18.trans (hi.1)
      subst ex18
      refine lv_iconst (v := 1) hx hb d_MD_add_140 (by decide) ?_
      refine lv_icmp_ne (tgt := 190) hx hb d_MD_add_141 (by decide) (fun _ => ?_) (fun c0 => absurd c0 (by decide))
      exact pz_vret hx hb hr hlocks hK hP hD hS (Nat.le_of_ble_eq_true rfl) (Nat.le_of_ble_eq_true rfl) ⟨(M.sj 0 ((M.ln + M.dp) + ia.toInt64)).sj 1 ib.toInt64, rfl, ⟨rfl, rfl⟩, tv_box1 hT c_14⟩ d_MD_add_190
    · refine lv_aload_n hx hb d_MD_add_56 rfl (lv_at hl 0 rfl) ?_
      refine lv_aload_n hx hb d_MD_add_57 rfl (lv_at hl 0 rfl) ?_
      refine pz_get (ci := 10) (C := "PageMakerModel") (T := T_MD) (N := 26) hx hb htb in_MD hown hK hP (lm_in (by decide)) h_11 rfl 22 (by decide) (htb _ tw_704) (fun _ h9 => h9) rfl d_MD_add_58 ?_
      refine lv_aload_n hx hb d_MD_add_61 rfl (lv_at hl 0 rfl) ?_
      refine pz_get (ci := 10) (C := "PageMakerModel") (T := T_MD) (N := 26) hx hb htb in_MD hown hK hP (lm_in (by decide)) h_11 rfl 23 (by decide) (htb _ tw_705) (fun _ h9 => h9) rfl d_MD_add_62 ?_
      refine lv_ladd hx hb d_MD_add_65 ?_
      refine lv_aload_n hx hb d_MD_add_66 rfl (lv_at hl 0 rfl) ?_
      refine pz_get (ci := 10) (C := "PageMakerModel") (T := T_MD) (N := 26) hx hb htb in_MD hown hK hP (lm_in (by decide)) h_11 rfl 12 (by decide) (htb _ tw_694) (fun _ h9 => h9) rfl d_MD_add_67 ?_
      refine lv_iload_n hx hb d_MD_add_70 rfl (lv_at hl 1 rfl) ?_
      refine pz_iald (j := j) hx hb hK hP 0 (lm_in (by decide)) h_12 rfl (by omega) (by decide) d_MD_add_71 ?_
      refine lv_topi (fun x19 ex19 => ?_)
      have ex19 : x19 = gg := ex19.trans (hd)
      rw [ex19]
      refine lv_i2l hx hb d_MD_add_72 rfl ?_
      refine lv_lsub hx hb d_MD_add_73 ?_
      refine pz_put (ci := 10) (v := .long ((((M.ln + M.dp) + ia.toInt64) + ib.toInt64) - gg.toInt64)) (ty := .long) (C := "PageMakerModel") (T := T_MD) (N := 26) hx hb htb in_MD ty_MD to_MD nm_MD hown hK hP hD hS (lm_in (by decide)) h_11 rfl 22 (by decide) (htb _ tw_704) (fun _ h9 => h9) rfl rfl rfl rfl (Nat.le_of_ble_eq_true rfl) d_MD_add_74 (fun f20 H locs ef20 hP hD hS => ?_)
      have ef20 : f20 = va_up (mF G A ((M.sj 0 ((M.ln + M.dp) + ia.toInt64)).sj 1 ib.toInt64)) (A 0) (.inr (10, [.int M.th, .ref (A 1), .ref (A 2), .ref (A 3), .ref (A 4), .ref (A 5), .int M.ct, .int M.ht, .int M.tp, .int M.gr, .ref (A 6), .ref (A 7), .ref (A 8), .ref (A 9), .ref (A 10), .ref (A 11), .ref (A 12), .int M.pg, .int M.bg, .int M.io, .int M.be, .int M.le, .long ((((M.ln + M.dp) + ia.toInt64) + ib.toInt64) - gg.toInt64), .long ib.toInt64, .ref (A 13), .long M.sh])) := ef20
      have ef20 : f20 = mF G A (((M.sj 0 ((M.ln + M.dp) + ia.toInt64)).sj 1 ib.toInt64).sj 0 ((((M.ln + M.dp) + ia.toInt64) + ib.toInt64) - gg.toInt64)) := ef20.trans (mf_o hA9 (M1 := ((M.sj 0 ((M.ln + M.dp) + ia.toInt64)).sj 1 ib.toInt64).sj 0 ((((M.ln + M.dp) + ia.toInt64) + ib.toInt64) - gg.toInt64)) rfl rfl)
      subst ef20
      refine lv_aload_n hx hb d_MD_add_77 rfl (lv_at hl 0 rfl) ?_
      refine lv_aload_n hx hb d_MD_add_78 rfl (lv_at hl 0 rfl) ?_
      have h_21 : mF G A (((M.sj 0 ((M.ln + M.dp) + ia.toInt64)).sj 1 ib.toInt64).sj 0 ((((M.ln + M.dp) + ia.toInt64) + ib.toInt64) - gg.toInt64)) (A 0) = .inr (10, [.int M.th, .ref (A 1), .ref (A 2), .ref (A 3), .ref (A 4), .ref (A 5), .int M.ct, .int M.ht, .int M.tp, .int M.gr, .ref (A 6), .ref (A 7), .ref (A 8), .ref (A 9), .ref (A 10), .ref (A 11), .ref (A 12), .int M.pg, .int M.bg, .int M.io, .int M.be, .int M.le, .long ((((M.ln + M.dp) + ia.toInt64) + ib.toInt64) - gg.toInt64), .long ib.toInt64, .ref (A 13), .long M.sh]) := mf_at hA9 (((M.sj 0 ((M.ln + M.dp) + ia.toInt64)).sj 1 ib.toInt64).sj 0 ((((M.ln + M.dp) + ia.toInt64) + ib.toInt64) - gg.toInt64)) 0 (by decide)
      refine pz_get (ci := 10) (C := "PageMakerModel") (T := T_MD) (N := 26) hx hb htb in_MD hown hK hP (lm_in (by decide)) h_21 rfl 12 (by decide) (htb _ tw_694) (fun _ h9 => h9) rfl d_MD_add_79 ?_
      refine lv_iload_n hx hb d_MD_add_82 rfl (lv_at hl 1 rfl) ?_
      have h_22 : mF G A (((M.sj 0 ((M.ln + M.dp) + ia.toInt64)).sj 1 ib.toInt64).sj 0 ((((M.ln + M.dp) + ia.toInt64) + ib.toInt64) - gg.toInt64)) (A 8) = .inl (cI G, 2001, .inl M.ds) := mf_at hA9 (((M.sj 0 ((M.ln + M.dp) + ia.toInt64)).sj 1 ib.toInt64).sj 0 ((((M.ln + M.dp) + ia.toInt64) + ib.toInt64) - gg.toInt64)) 8 (by decide)
      refine pz_iald (j := j) hx hb hK hP 0 (lm_in (by decide)) h_22 rfl (by omega) (by decide) d_MD_add_83 ?_
      refine lv_topi (fun x23 ex23 => ?_)
      have ex23 : x23 = gg := ex23.trans (hd)
      rw [ex23]
      refine lv_i2l hx hb d_MD_add_84 rfl ?_
      refine pz_put (ci := 10) (v := .long gg.toInt64) (ty := .long) (C := "PageMakerModel") (T := T_MD) (N := 26) hx hb htb in_MD ty_MD to_MD nm_MD hown hK hP hD hS (lm_in (by decide)) h_21 rfl 23 (by decide) (htb _ tw_705) (fun _ h9 => h9) rfl rfl rfl rfl (Nat.le_of_ble_eq_true rfl) d_MD_add_85 (fun f24 H locs ef24 hP hD hS => ?_)
      have ef24 : f24 = va_up (mF G A (((M.sj 0 ((M.ln + M.dp) + ia.toInt64)).sj 1 ib.toInt64).sj 0 ((((M.ln + M.dp) + ia.toInt64) + ib.toInt64) - gg.toInt64))) (A 0) (.inr (10, [.int M.th, .ref (A 1), .ref (A 2), .ref (A 3), .ref (A 4), .ref (A 5), .int M.ct, .int M.ht, .int M.tp, .int M.gr, .ref (A 6), .ref (A 7), .ref (A 8), .ref (A 9), .ref (A 10), .ref (A 11), .ref (A 12), .int M.pg, .int M.bg, .int M.io, .int M.be, .int M.le, .long ((((M.ln + M.dp) + ia.toInt64) + ib.toInt64) - gg.toInt64), .long gg.toInt64, .ref (A 13), .long M.sh])) := ef24
      have ef24 : f24 = mF G A ((((M.sj 0 ((M.ln + M.dp) + ia.toInt64)).sj 1 ib.toInt64).sj 0 ((((M.ln + M.dp) + ia.toInt64) + ib.toInt64) - gg.toInt64)).sj 1 gg.toInt64) := ef24.trans (mf_o hA9 (M1 := (((M.sj 0 ((M.ln + M.dp) + ia.toInt64)).sj 1 ib.toInt64).sj 0 ((((M.ln + M.dp) + ia.toInt64) + ib.toInt64) - gg.toInt64)).sj 1 gg.toInt64) rfl rfl)
      subst ef24
      refine lv_aload_n hx hb d_MD_add_88 rfl (lv_at hl 0 rfl) ?_
      have h_25 : mF G A ((((M.sj 0 ((M.ln + M.dp) + ia.toInt64)).sj 1 ib.toInt64).sj 0 ((((M.ln + M.dp) + ia.toInt64) + ib.toInt64) - gg.toInt64)).sj 1 gg.toInt64) (A 0) = .inr (10, [.int M.th, .ref (A 1), .ref (A 2), .ref (A 3), .ref (A 4), .ref (A 5), .int M.ct, .int M.ht, .int M.tp, .int M.gr, .ref (A 6), .ref (A 7), .ref (A 8), .ref (A 9), .ref (A 10), .ref (A 11), .ref (A 12), .int M.pg, .int M.bg, .int M.io, .int M.be, .int M.le, .long ((((M.ln + M.dp) + ia.toInt64) + ib.toInt64) - gg.toInt64), .long gg.toInt64, .ref (A 13), .long M.sh]) := mf_at hA9 ((((M.sj 0 ((M.ln + M.dp) + ia.toInt64)).sj 1 ib.toInt64).sj 0 ((((M.ln + M.dp) + ia.toInt64) + ib.toInt64) - gg.toInt64)).sj 1 gg.toInt64) 0 (by decide)
      refine pz_get (ci := 10) (C := "PageMakerModel") (T := T_MD) (N := 26) hx hb htb in_MD hown hK hP (lm_in (by decide)) h_25 rfl 1 (by decide) (htb _ tw_683) (fun _ h9 => h9) rfl d_MD_add_89 ?_
      refine lv_iload_n hx hb d_MD_add_92 rfl (lv_at hl 2 rfl) ?_
      have h_26 : mF G A ((((M.sj 0 ((M.ln + M.dp) + ia.toInt64)).sj 1 ib.toInt64).sj 0 ((((M.ln + M.dp) + ia.toInt64) + ib.toInt64) - gg.toInt64)).sj 1 gg.toInt64) (A 1) = .inl (cI G, 2000, .inl M.kd) := mf_at hA9 ((((M.sj 0 ((M.ln + M.dp) + ia.toInt64)).sj 1 ib.toInt64).sj 0 ((((M.ln + M.dp) + ia.toInt64) + ib.toInt64) - gg.toInt64)).sj 1 gg.toInt64) 1 (by decide)
      refine pz_iald (j := k) hx hb hK hP 0 (lm_in (by decide)) h_26 rfl (by omega) (by decide) d_MD_add_93 ?_
      refine lv_topi (fun x27 ex27 => ?_)
      have ex27 : x27 = 0 := ex27.trans (hi.1)
      subst ex27
      refine lv_iconst (v := 1) hx hb d_MD_add_94 (by decide) ?_
      refine lv_icmp_eq (tgt := 108) hx hb d_MD_add_95 (by decide) (fun c0 => absurd c0 (by decide)) (fun _ => ?_)
      refine lv_aload_n hx hb d_MD_add_98 rfl (lv_at hl 0 rfl) ?_
      refine pz_get (ci := 10) (C := "PageMakerModel") (T := T_MD) (N := 26) hx hb htb in_MD hown hK hP (lm_in (by decide)) h_25 rfl 1 (by decide) (htb _ tw_683) (fun _ h9 => h9) rfl d_MD_add_99 ?_
      refine lv_iload_n hx hb d_MD_add_102 rfl (lv_at hl 2 rfl) ?_
      refine pz_iald (j := k) hx hb hK hP 0 (lm_in (by decide)) h_26 rfl (by omega) (by decide) d_MD_add_103 ?_
      refine lv_topi (fun x28 ex28 => ?_)
      have ex28 : x28 = 0 := ex28.trans (hi.1)
      subst ex28
      refine lv_iconst (v := 2) hx hb d_MD_add_104 (by decide) ?_
      refine lv_icmp_ne (tgt := 134) hx hb d_MD_add_105 (by decide) (fun _ => ?_) (fun c0 => absurd c0 (by decide))
      refine lv_aload_n hx hb d_MD_add_134 rfl (lv_at hl 0 rfl) ?_
      refine pz_get (ci := 10) (C := "PageMakerModel") (T := T_MD) (N := 26) hx hb htb in_MD hown hK hP (lm_in (by decide)) h_25 rfl 1 (by decide) (htb _ tw_683) (fun _ h9 => h9) rfl d_MD_add_135 ?_
      refine lv_iload_n hx hb d_MD_add_138 rfl (lv_at hl 2 rfl) ?_
      refine pz_iald (j := k) hx hb hK hP 0 (lm_in (by decide)) h_26 rfl (by omega) (by decide) d_MD_add_139 ?_
      refine lv_topi (fun x29 ex29 => ?_)
      have ex29 : x29 = 0 := ex29.trans (hi.1)
      subst ex29
      refine lv_iconst (v := 1) hx hb d_MD_add_140 (by decide) ?_
      refine lv_icmp_ne (tgt := 190) hx hb d_MD_add_141 (by decide) (fun _ => ?_) (fun c0 => absurd c0 (by decide))
      exact pz_vret hx hb hr hlocks hK hP hD hS (Nat.le_of_ble_eq_true rfl) (Nat.le_of_ble_eq_true rfl) ⟨(((M.sj 0 ((M.ln + M.dp) + ia.toInt64)).sj 1 ib.toInt64).sj 0 ((((M.ln + M.dp) + ia.toInt64) + ib.toInt64) - gg.toInt64)).sj 1 gg.toInt64, rfl, ⟨rfl, rfl⟩, tv_box2 hT c_14⟩ d_MD_add_190
  · have hi : itM M.r k (.inr (.inl (ia, ib, io, id9))) := hi
    refine lv_aload_n hx hb d_MD_add_0 rfl (lv_at hl 0 rfl) ?_
    have h_30 : mF G A M (A 0) = .inr (10, [.int M.th, .ref (A 1), .ref (A 2), .ref (A 3), .ref (A 4), .ref (A 5), .int M.ct, .int M.ht, .int M.tp, .int M.gr, .ref (A 6), .ref (A 7), .ref (A 8), .ref (A 9), .ref (A 10), .ref (A 11), .ref (A 12), .int M.pg, .int M.bg, .int M.io, .int M.be, .int M.le, .long M.ln, .long M.dp, .ref (A 13), .long M.sh]) := mf_at hA9 M 0 (by decide)
    refine pz_get (ci := 10) (C := "PageMakerModel") (T := T_MD) (N := 26) hx hb htb in_MD hown hK hP (lm_in (by decide)) h_30 rfl 1 (by decide) (htb _ tw_683) (fun _ h9 => h9) rfl d_MD_add_1 ?_
    refine lv_iload_n hx hb d_MD_add_4 rfl (lv_at hl 2 rfl) ?_
    have h_31 : mF G A M (A 1) = .inl (cI G, 2000, .inl M.kd) := mf_at hA9 M 1 (by decide)
    refine pz_iald (j := k) hx hb hK hP 0 (lm_in (by decide)) h_31 rfl (by omega) (by decide) d_MD_add_5 ?_
    refine lv_topi (fun x32 ex32 => ?_)
    have ex32 : x32 = 1 := ex32.trans (hi.1)
    subst ex32
    refine lv_if_ne (tgt := 88) hx hb d_MD_add_6 (by decide) (fun _ => ?_) (fun c0 => absurd c0 (by decide))
    refine lv_aload_n hx hb d_MD_add_88 rfl (lv_at hl 0 rfl) ?_
    refine pz_get (ci := 10) (C := "PageMakerModel") (T := T_MD) (N := 26) hx hb htb in_MD hown hK hP (lm_in (by decide)) h_30 rfl 1 (by decide) (htb _ tw_683) (fun _ h9 => h9) rfl d_MD_add_89 ?_
    refine lv_iload_n hx hb d_MD_add_92 rfl (lv_at hl 2 rfl) ?_
    refine pz_iald (j := k) hx hb hK hP 0 (lm_in (by decide)) h_31 rfl (by omega) (by decide) d_MD_add_93 ?_
    refine lv_topi (fun x33 ex33 => ?_)
    have ex33 : x33 = 1 := ex33.trans (hi.1)
    subst ex33
    refine lv_iconst (v := 1) hx hb d_MD_add_94 (by decide) ?_
    refine lv_icmp_eq (tgt := 108) hx hb d_MD_add_95 (by decide) (fun _ => ?_) (fun c0 => absurd c0 (by decide))
    refine lv_aload_n hx hb d_MD_add_108 rfl (lv_at hl 0 rfl) ?_
    refine lv_aload_n hx hb d_MD_add_109 rfl (lv_at hl 0 rfl) ?_
    refine pz_get (ci := 10) (C := "PageMakerModel") (T := T_MD) (N := 26) hx hb htb in_MD hown hK hP (lm_in (by decide)) h_30 rfl 22 (by decide) (htb _ tw_704) (fun _ h9 => h9) rfl d_MD_add_110 ?_
    refine lv_aload_n hx hb d_MD_add_113 rfl (lv_at hl 0 rfl) ?_
    refine pz_get (ci := 10) (C := "PageMakerModel") (T := T_MD) (N := 26) hx hb htb in_MD hown hK hP (lm_in (by decide)) h_30 rfl 23 (by decide) (htb _ tw_705) (fun _ h9 => h9) rfl d_MD_add_114 ?_
    refine lv_ladd hx hb d_MD_add_117 ?_
    refine lv_aload_n hx hb d_MD_add_118 rfl (lv_at hl 0 rfl) ?_
    refine pz_get (ci := 10) (C := "PageMakerModel") (T := T_MD) (N := 26) hx hb htb in_MD hown hK hP (lm_in (by decide)) h_30 rfl 2 (by decide) (htb _ tw_684) (fun _ h9 => h9) rfl d_MD_add_119 ?_
    refine lv_iload_n hx hb d_MD_add_122 rfl (lv_at hl 2 rfl) ?_
    have h_34 : mF G A M (A 2) = .inl (cI G, 2000, .inl M.on) := mf_at hA9 M 2 (by decide)
    refine pz_iald (j := k) hx hb hK hP 0 (lm_in (by decide)) h_34 rfl (by omega) (by decide) d_MD_add_123 ?_
    refine lv_topi (fun x35 ex35 => ?_)
    have ex35 : x35 = ia := ex35.trans (hi.2.1)
    rw [ex35]
    refine lv_i2l hx hb d_MD_add_124 rfl ?_
    refine lv_ladd hx hb d_MD_add_125 ?_
    refine pz_put (ci := 10) (v := .long ((M.ln + M.dp) + ia.toInt64)) (ty := .long) (C := "PageMakerModel") (T := T_MD) (N := 26) hx hb htb in_MD ty_MD to_MD nm_MD hown hK hP hD hS (lm_in (by decide)) h_30 rfl 22 (by decide) (htb _ tw_704) (fun _ h9 => h9) rfl rfl rfl rfl (Nat.le_of_ble_eq_true rfl) d_MD_add_126 (fun f36 H locs ef36 hP hD hS => ?_)
    have ef36 : f36 = va_up (mF G A M) (A 0) (.inr (10, [.int M.th, .ref (A 1), .ref (A 2), .ref (A 3), .ref (A 4), .ref (A 5), .int M.ct, .int M.ht, .int M.tp, .int M.gr, .ref (A 6), .ref (A 7), .ref (A 8), .ref (A 9), .ref (A 10), .ref (A 11), .ref (A 12), .int M.pg, .int M.bg, .int M.io, .int M.be, .int M.le, .long ((M.ln + M.dp) + ia.toInt64), .long M.dp, .ref (A 13), .long M.sh])) := ef36
    have ef36 : f36 = mF G A (M.sj 0 ((M.ln + M.dp) + ia.toInt64)) := ef36.trans (mf_o hA9 (M1 := M.sj 0 ((M.ln + M.dp) + ia.toInt64)) rfl rfl)
    subst ef36
    refine lv_aload_n hx hb d_MD_add_129 rfl (lv_at hl 0 rfl) ?_
    refine lv_lconst (v := 0) hx hb d_MD_add_130 rfl ?_
    have h_37 : mF G A (M.sj 0 ((M.ln + M.dp) + ia.toInt64)) (A 0) = .inr (10, [.int M.th, .ref (A 1), .ref (A 2), .ref (A 3), .ref (A 4), .ref (A 5), .int M.ct, .int M.ht, .int M.tp, .int M.gr, .ref (A 6), .ref (A 7), .ref (A 8), .ref (A 9), .ref (A 10), .ref (A 11), .ref (A 12), .int M.pg, .int M.bg, .int M.io, .int M.be, .int M.le, .long ((M.ln + M.dp) + ia.toInt64), .long M.dp, .ref (A 13), .long M.sh]) := mf_at hA9 (M.sj 0 ((M.ln + M.dp) + ia.toInt64)) 0 (by decide)
    refine pz_put (ci := 10) (v := .long 0) (ty := .long) (C := "PageMakerModel") (T := T_MD) (N := 26) hx hb htb in_MD ty_MD to_MD nm_MD hown hK hP hD hS (lm_in (by decide)) h_37 rfl 23 (by decide) (htb _ tw_705) (fun _ h9 => h9) rfl rfl rfl rfl (Nat.le_of_ble_eq_true rfl) d_MD_add_131 (fun f38 H locs ef38 hP hD hS => ?_)
    have ef38 : f38 = va_up (mF G A (M.sj 0 ((M.ln + M.dp) + ia.toInt64))) (A 0) (.inr (10, [.int M.th, .ref (A 1), .ref (A 2), .ref (A 3), .ref (A 4), .ref (A 5), .int M.ct, .int M.ht, .int M.tp, .int M.gr, .ref (A 6), .ref (A 7), .ref (A 8), .ref (A 9), .ref (A 10), .ref (A 11), .ref (A 12), .int M.pg, .int M.bg, .int M.io, .int M.be, .int M.le, .long ((M.ln + M.dp) + ia.toInt64), .long 0, .ref (A 13), .long M.sh])) := ef38
    have ef38 : f38 = mF G A ((M.sj 0 ((M.ln + M.dp) + ia.toInt64)).sj 1 0) := ef38.trans (mf_o hA9 (M1 := (M.sj 0 ((M.ln + M.dp) + ia.toInt64)).sj 1 0) rfl rfl)
    subst ef38
    refine lv_aload_n hx hb d_MD_add_134 rfl (lv_at hl 0 rfl) ?_
    have h_39 : mF G A ((M.sj 0 ((M.ln + M.dp) + ia.toInt64)).sj 1 0) (A 0) = .inr (10, [.int M.th, .ref (A 1), .ref (A 2), .ref (A 3), .ref (A 4), .ref (A 5), .int M.ct, .int M.ht, .int M.tp, .int M.gr, .ref (A 6), .ref (A 7), .ref (A 8), .ref (A 9), .ref (A 10), .ref (A 11), .ref (A 12), .int M.pg, .int M.bg, .int M.io, .int M.be, .int M.le, .long ((M.ln + M.dp) + ia.toInt64), .long 0, .ref (A 13), .long M.sh]) := mf_at hA9 ((M.sj 0 ((M.ln + M.dp) + ia.toInt64)).sj 1 0) 0 (by decide)
    refine pz_get (ci := 10) (C := "PageMakerModel") (T := T_MD) (N := 26) hx hb htb in_MD hown hK hP (lm_in (by decide)) h_39 rfl 1 (by decide) (htb _ tw_683) (fun _ h9 => h9) rfl d_MD_add_135 ?_
    refine lv_iload_n hx hb d_MD_add_138 rfl (lv_at hl 2 rfl) ?_
    have h_40 : mF G A ((M.sj 0 ((M.ln + M.dp) + ia.toInt64)).sj 1 0) (A 1) = .inl (cI G, 2000, .inl M.kd) := mf_at hA9 ((M.sj 0 ((M.ln + M.dp) + ia.toInt64)).sj 1 0) 1 (by decide)
    refine pz_iald (j := k) hx hb hK hP 0 (lm_in (by decide)) h_40 rfl (by omega) (by decide) d_MD_add_139 ?_
    refine lv_topi (fun x41 ex41 => ?_)
    have ex41 : x41 = 1 := ex41.trans (hi.1)
    subst ex41
    refine lv_iconst (v := 1) hx hb d_MD_add_140 (by decide) ?_
    refine lv_icmp_ne (tgt := 190) hx hb d_MD_add_141 (by decide) (fun c0 => absurd c0 (by decide)) (fun _ => ?_)
    refine lv_aload_n hx hb d_MD_add_144 rfl (lv_at hl 0 rfl) ?_
    refine pz_get (ci := 10) (C := "PageMakerModel") (T := T_MD) (N := 26) hx hb htb in_MD hown hK hP (lm_in (by decide)) h_39 rfl 24 (by decide) (htb _ tw_706) (fun _ h9 => h9) rfl d_MD_add_145 ?_
    refine lv_aload_n hx hb d_MD_add_148 rfl (lv_at hl 0 rfl) ?_
    refine pz_get (ci := 10) (C := "PageMakerModel") (T := T_MD) (N := 26) hx hb htb in_MD hown hK hP (lm_in (by decide)) h_39 rfl 5 (by decide) (htb _ tw_687) (fun _ h9 => h9) rfl d_MD_add_149 ?_
    refine lv_iload_n hx hb d_MD_add_152 rfl (lv_at hl 2 rfl) ?_
    have h_42 : mF G A ((M.sj 0 ((M.ln + M.dp) + ia.toInt64)).sj 1 0) (A 5) = .inl (cI G, 2000, .inl M.od) := mf_at hA9 ((M.sj 0 ((M.ln + M.dp) + ia.toInt64)).sj 1 0) 5 (by decide)
    refine pz_iald (j := k) hx hb hK hP 0 (lm_in (by decide)) h_42 rfl (by omega) (by decide) d_MD_add_153 ?_
    refine lv_topi (fun x43 ex43 => ?_)
    have ex43 : x43 = io := ex43.trans (hi.2.2.2.2)
    rw [ex43]
    refine lv_aload_n hx hb d_MD_add_154 rfl (lv_at hl 0 rfl) ?_
    refine pz_get (ci := 10) (C := "PageMakerModel") (T := T_MD) (N := 26) hx hb htb in_MD hown hK hP (lm_in (by decide)) h_39 rfl 24 (by decide) (htb _ tw_706) (fun _ h9 => h9) rfl d_MD_add_155 ?_
    refine lv_aload_n hx hb d_MD_add_158 rfl (lv_at hl 0 rfl) ?_
    refine pz_get (ci := 10) (C := "PageMakerModel") (T := T_MD) (N := 26) hx hb htb in_MD hown hK hP (lm_in (by decide)) h_39 rfl 5 (by decide) (htb _ tw_687) (fun _ h9 => h9) rfl d_MD_add_159 ?_
    refine lv_iload_n hx hb d_MD_add_162 rfl (lv_at hl 2 rfl) ?_
    refine pz_iald (j := k) hx hb hK hP 0 (lm_in (by decide)) h_42 rfl (by omega) (by decide) d_MD_add_163 ?_
    refine lv_topi (fun x44 ex44 => ?_)
    have ex44 : x44 = io := ex44.trans (hi.2.2.2.2)
    rw [ex44]
    have h_45 : mF G A ((M.sj 0 ((M.ln + M.dp) + ia.toInt64)).sj 1 0) (A 13) = .inl (cJ G, 4, .inr (.inl M.g)) := mf_at hA9 ((M.sj 0 ((M.ln + M.dp) + ia.toInt64)).sj 1 0) 13 (by decide)
    have hin46 : vp_in io 4 := hok
    refine pz_lald hx hb hK hP 1 (lm_in (by decide)) h_45 rfl hin46 d_MD_add_164 ?_
    refine lv_aload_n hx hb d_MD_add_165 rfl (lv_at hl 0 rfl) ?_
    refine pz_get (ci := 10) (C := "PageMakerModel") (T := T_MD) (N := 26) hx hb htb in_MD hown hK hP (lm_in (by decide)) h_39 rfl 3 (by decide) (htb _ tw_685) (fun _ h9 => h9) rfl d_MD_add_166 ?_
    refine lv_iload_n hx hb d_MD_add_169 rfl (lv_at hl 2 rfl) ?_
    have h_47 : mF G A ((M.sj 0 ((M.ln + M.dp) + ia.toInt64)).sj 1 0) (A 3) = .inl (cI G, 2000, .inl M.tw) := mf_at hA9 ((M.sj 0 ((M.ln + M.dp) + ia.toInt64)).sj 1 0) 3 (by decide)
    refine pz_iald (j := k) hx hb hK hP 0 (lm_in (by decide)) h_47 rfl (by omega) (by decide) d_MD_add_170 ?_
    refine lv_topi (fun x48 ex48 => ?_)
    have ex48 : x48 = ib := ex48.trans (hi.2.2.1)
    rw [ex48]
    refine lv_i2l hx hb d_MD_add_171 rfl ?_
    refine lv_ladd hx hb d_MD_add_172 ?_
    have hin50 : vp_in io 4 := hok
    refine pz_last hx hb hK hP hD hS 1 (lm_in (by decide)) h_45 rfl hin50 d_MD_add_173 (fun f49 H locs ef49 hP hD hS => ?_)
    have ef49 : f49 = mF G A (((M.sj 0 ((M.ln + M.dp) + ia.toInt64)).sj 1 0).sg (vp_updL M.g io.toNatClampNeg ((M.g io.toNatClampNeg) + ib.toInt64))) := ef49.trans (mf_g hA9 (M := (M.sj 0 ((M.ln + M.dp) + ia.toInt64)).sj 1 0))
    subst ef49
    refine lv_aload_n hx hb d_MD_add_174 rfl (lv_at hl 0 rfl) ?_
    refine lv_aload_n hx hb d_MD_add_175 rfl (lv_at hl 0 rfl) ?_
    have h_51 : mF G A (((M.sj 0 ((M.ln + M.dp) + ia.toInt64)).sj 1 0).sg (vp_updL M.g io.toNatClampNeg ((M.g io.toNatClampNeg) + ib.toInt64))) (A 0) = .inr (10, [.int M.th, .ref (A 1), .ref (A 2), .ref (A 3), .ref (A 4), .ref (A 5), .int M.ct, .int M.ht, .int M.tp, .int M.gr, .ref (A 6), .ref (A 7), .ref (A 8), .ref (A 9), .ref (A 10), .ref (A 11), .ref (A 12), .int M.pg, .int M.bg, .int M.io, .int M.be, .int M.le, .long ((M.ln + M.dp) + ia.toInt64), .long 0, .ref (A 13), .long M.sh]) := mf_at hA9 (((M.sj 0 ((M.ln + M.dp) + ia.toInt64)).sj 1 0).sg (vp_updL M.g io.toNatClampNeg ((M.g io.toNatClampNeg) + ib.toInt64))) 0 (by decide)
    refine pz_get (ci := 10) (C := "PageMakerModel") (T := T_MD) (N := 26) hx hb htb in_MD hown hK hP (lm_in (by decide)) h_51 rfl 25 (by decide) (htb _ tw_707) (fun _ h9 => h9) rfl d_MD_add_176 ?_
    refine lv_aload_n hx hb d_MD_add_179 rfl (lv_at hl 0 rfl) ?_
    refine pz_get (ci := 10) (C := "PageMakerModel") (T := T_MD) (N := 26) hx hb htb in_MD hown hK hP (lm_in (by decide)) h_51 rfl 4 (by decide) (htb _ tw_686) (fun _ h9 => h9) rfl d_MD_add_180 ?_
    refine lv_iload_n hx hb d_MD_add_183 rfl (lv_at hl 2 rfl) ?_
    have h_52 : mF G A (((M.sj 0 ((M.ln + M.dp) + ia.toInt64)).sj 1 0).sg (vp_updL M.g io.toNatClampNeg ((M.g io.toNatClampNeg) + ib.toInt64))) (A 4) = .inl (cI G, 2000, .inl M.te) := mf_at hA9 (((M.sj 0 ((M.ln + M.dp) + ia.toInt64)).sj 1 0).sg (vp_updL M.g io.toNatClampNeg ((M.g io.toNatClampNeg) + ib.toInt64))) 4 (by decide)
    refine pz_iald (j := k) hx hb hK hP 0 (lm_in (by decide)) h_52 rfl (by omega) (by decide) d_MD_add_184 ?_
    refine lv_topi (fun x53 ex53 => ?_)
    have ex53 : x53 = id9 := ex53.trans (hi.2.2.2.1)
    rw [ex53]
    refine lv_i2l hx hb d_MD_add_185 rfl ?_
    refine lv_ladd hx hb d_MD_add_186 ?_
    refine pz_put (ci := 10) (v := .long (M.sh + id9.toInt64)) (ty := .long) (C := "PageMakerModel") (T := T_MD) (N := 26) hx hb htb in_MD ty_MD to_MD nm_MD hown hK hP hD hS (lm_in (by decide)) h_51 rfl 25 (by decide) (htb _ tw_707) (fun _ h9 => h9) rfl rfl rfl rfl (Nat.le_of_ble_eq_true rfl) d_MD_add_187 (fun f54 H locs ef54 hP hD hS => ?_)
    have ef54 : f54 = va_up (mF G A (((M.sj 0 ((M.ln + M.dp) + ia.toInt64)).sj 1 0).sg (vp_updL M.g io.toNatClampNeg ((M.g io.toNatClampNeg) + ib.toInt64)))) (A 0) (.inr (10, [.int M.th, .ref (A 1), .ref (A 2), .ref (A 3), .ref (A 4), .ref (A 5), .int M.ct, .int M.ht, .int M.tp, .int M.gr, .ref (A 6), .ref (A 7), .ref (A 8), .ref (A 9), .ref (A 10), .ref (A 11), .ref (A 12), .int M.pg, .int M.bg, .int M.io, .int M.be, .int M.le, .long ((M.ln + M.dp) + ia.toInt64), .long 0, .ref (A 13), .long (M.sh + id9.toInt64)])) := ef54
    have ef54 : f54 = mF G A ((((M.sj 0 ((M.ln + M.dp) + ia.toInt64)).sj 1 0).sg (vp_updL M.g io.toNatClampNeg ((M.g io.toNatClampNeg) + ib.toInt64))).sj 2 (M.sh + id9.toInt64)) := ef54.trans (mf_o hA9 (M1 := (((M.sj 0 ((M.ln + M.dp) + ia.toInt64)).sj 1 0).sg (vp_updL M.g io.toNatClampNeg ((M.g io.toNatClampNeg) + ib.toInt64))).sj 2 (M.sh + id9.toInt64)) rfl rfl)
    subst ef54
    exact pz_vret hx hb hr hlocks hK hP hD hS (Nat.le_of_ble_eq_true rfl) (Nat.le_of_ble_eq_true rfl) ⟨(((M.sj 0 ((M.ln + M.dp) + ia.toInt64)).sj 1 0).sg (vp_updL M.g io.toNatClampNeg ((M.g io.toNatClampNeg) + ib.toInt64))).sj 2 (M.sh + id9.toInt64), rfl, ⟨rfl, rfl⟩, tv_glue hT hok⟩ d_MD_add_190
  · have hi : itM M.r k (.inr (.inr (.inl ia))) := hi
    refine lv_aload_n hx hb d_MD_add_0 rfl (lv_at hl 0 rfl) ?_
    have h_55 : mF G A M (A 0) = .inr (10, [.int M.th, .ref (A 1), .ref (A 2), .ref (A 3), .ref (A 4), .ref (A 5), .int M.ct, .int M.ht, .int M.tp, .int M.gr, .ref (A 6), .ref (A 7), .ref (A 8), .ref (A 9), .ref (A 10), .ref (A 11), .ref (A 12), .int M.pg, .int M.bg, .int M.io, .int M.be, .int M.le, .long M.ln, .long M.dp, .ref (A 13), .long M.sh]) := mf_at hA9 M 0 (by decide)
    refine pz_get (ci := 10) (C := "PageMakerModel") (T := T_MD) (N := 26) hx hb htb in_MD hown hK hP (lm_in (by decide)) h_55 rfl 1 (by decide) (htb _ tw_683) (fun _ h9 => h9) rfl d_MD_add_1 ?_
    refine lv_iload_n hx hb d_MD_add_4 rfl (lv_at hl 2 rfl) ?_
    have h_56 : mF G A M (A 1) = .inl (cI G, 2000, .inl M.kd) := mf_at hA9 M 1 (by decide)
    refine pz_iald (j := k) hx hb hK hP 0 (lm_in (by decide)) h_56 rfl (by omega) (by decide) d_MD_add_5 ?_
    refine lv_topi (fun x57 ex57 => ?_)
    have ex57 : x57 = 2 := ex57.trans (hi.1)
    subst ex57
    refine lv_if_ne (tgt := 88) hx hb d_MD_add_6 (by decide) (fun _ => ?_) (fun c0 => absurd c0 (by decide))
    refine lv_aload_n hx hb d_MD_add_88 rfl (lv_at hl 0 rfl) ?_
    refine pz_get (ci := 10) (C := "PageMakerModel") (T := T_MD) (N := 26) hx hb htb in_MD hown hK hP (lm_in (by decide)) h_55 rfl 1 (by decide) (htb _ tw_683) (fun _ h9 => h9) rfl d_MD_add_89 ?_
    refine lv_iload_n hx hb d_MD_add_92 rfl (lv_at hl 2 rfl) ?_
    refine pz_iald (j := k) hx hb hK hP 0 (lm_in (by decide)) h_56 rfl (by omega) (by decide) d_MD_add_93 ?_
    refine lv_topi (fun x58 ex58 => ?_)
    have ex58 : x58 = 2 := ex58.trans (hi.1)
    subst ex58
    refine lv_iconst (v := 1) hx hb d_MD_add_94 (by decide) ?_
    refine lv_icmp_eq (tgt := 108) hx hb d_MD_add_95 (by decide) (fun c0 => absurd c0 (by decide)) (fun _ => ?_)
    refine lv_aload_n hx hb d_MD_add_98 rfl (lv_at hl 0 rfl) ?_
    refine pz_get (ci := 10) (C := "PageMakerModel") (T := T_MD) (N := 26) hx hb htb in_MD hown hK hP (lm_in (by decide)) h_55 rfl 1 (by decide) (htb _ tw_683) (fun _ h9 => h9) rfl d_MD_add_99 ?_
    refine lv_iload_n hx hb d_MD_add_102 rfl (lv_at hl 2 rfl) ?_
    refine pz_iald (j := k) hx hb hK hP 0 (lm_in (by decide)) h_56 rfl (by omega) (by decide) d_MD_add_103 ?_
    refine lv_topi (fun x59 ex59 => ?_)
    have ex59 : x59 = 2 := ex59.trans (hi.1)
    subst ex59
    refine lv_iconst (v := 2) hx hb d_MD_add_104 (by decide) ?_
    refine lv_icmp_ne (tgt := 134) hx hb d_MD_add_105 (by decide) (fun c0 => absurd c0 (by decide)) (fun _ => ?_)
    refine lv_aload_n hx hb d_MD_add_108 rfl (lv_at hl 0 rfl) ?_
    refine lv_aload_n hx hb d_MD_add_109 rfl (lv_at hl 0 rfl) ?_
    refine pz_get (ci := 10) (C := "PageMakerModel") (T := T_MD) (N := 26) hx hb htb in_MD hown hK hP (lm_in (by decide)) h_55 rfl 22 (by decide) (htb _ tw_704) (fun _ h9 => h9) rfl d_MD_add_110 ?_
    refine lv_aload_n hx hb d_MD_add_113 rfl (lv_at hl 0 rfl) ?_
    refine pz_get (ci := 10) (C := "PageMakerModel") (T := T_MD) (N := 26) hx hb htb in_MD hown hK hP (lm_in (by decide)) h_55 rfl 23 (by decide) (htb _ tw_705) (fun _ h9 => h9) rfl d_MD_add_114 ?_
    refine lv_ladd hx hb d_MD_add_117 ?_
    refine lv_aload_n hx hb d_MD_add_118 rfl (lv_at hl 0 rfl) ?_
    refine pz_get (ci := 10) (C := "PageMakerModel") (T := T_MD) (N := 26) hx hb htb in_MD hown hK hP (lm_in (by decide)) h_55 rfl 2 (by decide) (htb _ tw_684) (fun _ h9 => h9) rfl d_MD_add_119 ?_
    refine lv_iload_n hx hb d_MD_add_122 rfl (lv_at hl 2 rfl) ?_
    have h_60 : mF G A M (A 2) = .inl (cI G, 2000, .inl M.on) := mf_at hA9 M 2 (by decide)
    refine pz_iald (j := k) hx hb hK hP 0 (lm_in (by decide)) h_60 rfl (by omega) (by decide) d_MD_add_123 ?_
    refine lv_topi (fun x61 ex61 => ?_)
    have ex61 : x61 = ia := ex61.trans (hi.2)
    rw [ex61]
    refine lv_i2l hx hb d_MD_add_124 rfl ?_
    refine lv_ladd hx hb d_MD_add_125 ?_
    refine pz_put (ci := 10) (v := .long ((M.ln + M.dp) + ia.toInt64)) (ty := .long) (C := "PageMakerModel") (T := T_MD) (N := 26) hx hb htb in_MD ty_MD to_MD nm_MD hown hK hP hD hS (lm_in (by decide)) h_55 rfl 22 (by decide) (htb _ tw_704) (fun _ h9 => h9) rfl rfl rfl rfl (Nat.le_of_ble_eq_true rfl) d_MD_add_126 (fun f62 H locs ef62 hP hD hS => ?_)
    have ef62 : f62 = va_up (mF G A M) (A 0) (.inr (10, [.int M.th, .ref (A 1), .ref (A 2), .ref (A 3), .ref (A 4), .ref (A 5), .int M.ct, .int M.ht, .int M.tp, .int M.gr, .ref (A 6), .ref (A 7), .ref (A 8), .ref (A 9), .ref (A 10), .ref (A 11), .ref (A 12), .int M.pg, .int M.bg, .int M.io, .int M.be, .int M.le, .long ((M.ln + M.dp) + ia.toInt64), .long M.dp, .ref (A 13), .long M.sh])) := ef62
    have ef62 : f62 = mF G A (M.sj 0 ((M.ln + M.dp) + ia.toInt64)) := ef62.trans (mf_o hA9 (M1 := M.sj 0 ((M.ln + M.dp) + ia.toInt64)) rfl rfl)
    subst ef62
    refine lv_aload_n hx hb d_MD_add_129 rfl (lv_at hl 0 rfl) ?_
    refine lv_lconst (v := 0) hx hb d_MD_add_130 rfl ?_
    have h_63 : mF G A (M.sj 0 ((M.ln + M.dp) + ia.toInt64)) (A 0) = .inr (10, [.int M.th, .ref (A 1), .ref (A 2), .ref (A 3), .ref (A 4), .ref (A 5), .int M.ct, .int M.ht, .int M.tp, .int M.gr, .ref (A 6), .ref (A 7), .ref (A 8), .ref (A 9), .ref (A 10), .ref (A 11), .ref (A 12), .int M.pg, .int M.bg, .int M.io, .int M.be, .int M.le, .long ((M.ln + M.dp) + ia.toInt64), .long M.dp, .ref (A 13), .long M.sh]) := mf_at hA9 (M.sj 0 ((M.ln + M.dp) + ia.toInt64)) 0 (by decide)
    refine pz_put (ci := 10) (v := .long 0) (ty := .long) (C := "PageMakerModel") (T := T_MD) (N := 26) hx hb htb in_MD ty_MD to_MD nm_MD hown hK hP hD hS (lm_in (by decide)) h_63 rfl 23 (by decide) (htb _ tw_705) (fun _ h9 => h9) rfl rfl rfl rfl (Nat.le_of_ble_eq_true rfl) d_MD_add_131 (fun f64 H locs ef64 hP hD hS => ?_)
    have ef64 : f64 = va_up (mF G A (M.sj 0 ((M.ln + M.dp) + ia.toInt64))) (A 0) (.inr (10, [.int M.th, .ref (A 1), .ref (A 2), .ref (A 3), .ref (A 4), .ref (A 5), .int M.ct, .int M.ht, .int M.tp, .int M.gr, .ref (A 6), .ref (A 7), .ref (A 8), .ref (A 9), .ref (A 10), .ref (A 11), .ref (A 12), .int M.pg, .int M.bg, .int M.io, .int M.be, .int M.le, .long ((M.ln + M.dp) + ia.toInt64), .long 0, .ref (A 13), .long M.sh])) := ef64
    have ef64 : f64 = mF G A ((M.sj 0 ((M.ln + M.dp) + ia.toInt64)).sj 1 0) := ef64.trans (mf_o hA9 (M1 := (M.sj 0 ((M.ln + M.dp) + ia.toInt64)).sj 1 0) rfl rfl)
    subst ef64
    refine lv_aload_n hx hb d_MD_add_134 rfl (lv_at hl 0 rfl) ?_
    have h_65 : mF G A ((M.sj 0 ((M.ln + M.dp) + ia.toInt64)).sj 1 0) (A 0) = .inr (10, [.int M.th, .ref (A 1), .ref (A 2), .ref (A 3), .ref (A 4), .ref (A 5), .int M.ct, .int M.ht, .int M.tp, .int M.gr, .ref (A 6), .ref (A 7), .ref (A 8), .ref (A 9), .ref (A 10), .ref (A 11), .ref (A 12), .int M.pg, .int M.bg, .int M.io, .int M.be, .int M.le, .long ((M.ln + M.dp) + ia.toInt64), .long 0, .ref (A 13), .long M.sh]) := mf_at hA9 ((M.sj 0 ((M.ln + M.dp) + ia.toInt64)).sj 1 0) 0 (by decide)
    refine pz_get (ci := 10) (C := "PageMakerModel") (T := T_MD) (N := 26) hx hb htb in_MD hown hK hP (lm_in (by decide)) h_65 rfl 1 (by decide) (htb _ tw_683) (fun _ h9 => h9) rfl d_MD_add_135 ?_
    refine lv_iload_n hx hb d_MD_add_138 rfl (lv_at hl 2 rfl) ?_
    have h_66 : mF G A ((M.sj 0 ((M.ln + M.dp) + ia.toInt64)).sj 1 0) (A 1) = .inl (cI G, 2000, .inl M.kd) := mf_at hA9 ((M.sj 0 ((M.ln + M.dp) + ia.toInt64)).sj 1 0) 1 (by decide)
    refine pz_iald (j := k) hx hb hK hP 0 (lm_in (by decide)) h_66 rfl (by omega) (by decide) d_MD_add_139 ?_
    refine lv_topi (fun x67 ex67 => ?_)
    have ex67 : x67 = 2 := ex67.trans (hi.1)
    subst ex67
    refine lv_iconst (v := 1) hx hb d_MD_add_140 (by decide) ?_
    refine lv_icmp_ne (tgt := 190) hx hb d_MD_add_141 (by decide) (fun _ => ?_) (fun c0 => absurd c0 (by decide))
    exact pz_vret hx hb hr hlocks hK hP hD hS (Nat.le_of_ble_eq_true rfl) (Nat.le_of_ble_eq_true rfl) ⟨(M.sj 0 ((M.ln + M.dp) + ia.toInt64)).sj 1 0, rfl, ⟨rfl, rfl⟩, tv_kern hT⟩ d_MD_add_190
  · have hi : itM M.r k (.inr (.inr (.inr ia))) := hi
    refine lv_aload_n hx hb d_MD_add_0 rfl (lv_at hl 0 rfl) ?_
    have h_68 : mF G A M (A 0) = .inr (10, [.int M.th, .ref (A 1), .ref (A 2), .ref (A 3), .ref (A 4), .ref (A 5), .int M.ct, .int M.ht, .int M.tp, .int M.gr, .ref (A 6), .ref (A 7), .ref (A 8), .ref (A 9), .ref (A 10), .ref (A 11), .ref (A 12), .int M.pg, .int M.bg, .int M.io, .int M.be, .int M.le, .long M.ln, .long M.dp, .ref (A 13), .long M.sh]) := mf_at hA9 M 0 (by decide)
    refine pz_get (ci := 10) (C := "PageMakerModel") (T := T_MD) (N := 26) hx hb htb in_MD hown hK hP (lm_in (by decide)) h_68 rfl 1 (by decide) (htb _ tw_683) (fun _ h9 => h9) rfl d_MD_add_1 ?_
    refine lv_iload_n hx hb d_MD_add_4 rfl (lv_at hl 2 rfl) ?_
    have h_69 : mF G A M (A 1) = .inl (cI G, 2000, .inl M.kd) := mf_at hA9 M 1 (by decide)
    refine pz_iald (j := k) hx hb hK hP 0 (lm_in (by decide)) h_69 rfl (by omega) (by decide) d_MD_add_5 ?_
    refine lv_topi (fun x70 ex70 => ?_)
    have ex70 : x70 = 3 := ex70.trans (hi.1)
    subst ex70
    refine lv_if_ne (tgt := 88) hx hb d_MD_add_6 (by decide) (fun _ => ?_) (fun c0 => absurd c0 (by decide))
    refine lv_aload_n hx hb d_MD_add_88 rfl (lv_at hl 0 rfl) ?_
    refine pz_get (ci := 10) (C := "PageMakerModel") (T := T_MD) (N := 26) hx hb htb in_MD hown hK hP (lm_in (by decide)) h_68 rfl 1 (by decide) (htb _ tw_683) (fun _ h9 => h9) rfl d_MD_add_89 ?_
    refine lv_iload_n hx hb d_MD_add_92 rfl (lv_at hl 2 rfl) ?_
    refine pz_iald (j := k) hx hb hK hP 0 (lm_in (by decide)) h_69 rfl (by omega) (by decide) d_MD_add_93 ?_
    refine lv_topi (fun x71 ex71 => ?_)
    have ex71 : x71 = 3 := ex71.trans (hi.1)
    subst ex71
    refine lv_iconst (v := 1) hx hb d_MD_add_94 (by decide) ?_
    refine lv_icmp_eq (tgt := 108) hx hb d_MD_add_95 (by decide) (fun c0 => absurd c0 (by decide)) (fun _ => ?_)
    refine lv_aload_n hx hb d_MD_add_98 rfl (lv_at hl 0 rfl) ?_
    refine pz_get (ci := 10) (C := "PageMakerModel") (T := T_MD) (N := 26) hx hb htb in_MD hown hK hP (lm_in (by decide)) h_68 rfl 1 (by decide) (htb _ tw_683) (fun _ h9 => h9) rfl d_MD_add_99 ?_
    refine lv_iload_n hx hb d_MD_add_102 rfl (lv_at hl 2 rfl) ?_
    refine pz_iald (j := k) hx hb hK hP 0 (lm_in (by decide)) h_69 rfl (by omega) (by decide) d_MD_add_103 ?_
    refine lv_topi (fun x72 ex72 => ?_)
    have ex72 : x72 = 3 := ex72.trans (hi.1)
    subst ex72
    refine lv_iconst (v := 2) hx hb d_MD_add_104 (by decide) ?_
    refine lv_icmp_ne (tgt := 134) hx hb d_MD_add_105 (by decide) (fun _ => ?_) (fun c0 => absurd c0 (by decide))
    refine lv_aload_n hx hb d_MD_add_134 rfl (lv_at hl 0 rfl) ?_
    refine pz_get (ci := 10) (C := "PageMakerModel") (T := T_MD) (N := 26) hx hb htb in_MD hown hK hP (lm_in (by decide)) h_68 rfl 1 (by decide) (htb _ tw_683) (fun _ h9 => h9) rfl d_MD_add_135 ?_
    refine lv_iload_n hx hb d_MD_add_138 rfl (lv_at hl 2 rfl) ?_
    refine pz_iald (j := k) hx hb hK hP 0 (lm_in (by decide)) h_69 rfl (by omega) (by decide) d_MD_add_139 ?_
    refine lv_topi (fun x73 ex73 => ?_)
    have ex73 : x73 = 3 := ex73.trans (hi.1)
    subst ex73
    refine lv_iconst (v := 1) hx hb d_MD_add_140 (by decide) ?_
    refine lv_icmp_ne (tgt := 190) hx hb d_MD_add_141 (by decide) (fun _ => ?_) (fun c0 => absurd c0 (by decide))
    exact pz_vret hx hb hr hlocks hK hP hD hS (Nat.le_of_ble_eq_true rfl) (Nat.le_of_ble_eq_true rfl) ⟨M, rfl, ⟨rfl, rfl⟩, hT⟩ d_MD_add_190
set_option maxHeartbeats 4000000 in
set_option maxRecDepth 100000 in
theorem c_MD_bad (l : Launch) (t x : Int64) (h0 : 0 ≤ x) : pI l y_MD_bad w_MD_bad ({ frames := 0, cells := 0, slots := 0, locals := 0 }) [.long t, .long x] (fun r => r = k_bad t x) := by
  refine pz_metP (cc := prog_12_method_9_code) (maxL := 6) (ret := (some .int)) (by decide) rfl (Nat.le_of_ble_eq_true rfl) ?_
  intro p e s m below meth c ls hx hb hr hml hts hown hlocks hl
  have htb : ∀ w ∈ TB, w.before _ s = true := fun w h => hts w (List.mem_cons_of_mem _ h)
  have hl : lv_has ls 6 [(0, .long t), (2, .long x)] := hl
  refine lv_lload_n hx hb d_MD_bad_0 rfl (lv_at hl 1 rfl) ?_
  refine lv_lconst (v := 0) hx hb d_MD_bad_1 rfl ?_
  refine pz_lne (tgt := 10) hx hb d_MD_bad_2 d_MD_bad_3 (by decide) (fun c_1 => ?_) (fun c_1 => ?_)
  · have hpos : 0 < x := k_posof h0 c_1
    refine lv_lload_n hx hb d_MD_bad_10 rfl (lv_at hl 0 rfl) ?_
    refine lv_lstore (lv' := [(4, .long t), (0, .long t), (2, .long x)]) hx hb d_MD_bad_11 hl (by decide) rfl (fun ls hl => ?_)
    refine lv_lload_n hx hb d_MD_bad_13 rfl (lv_at hl 1 rfl) ?_
    refine lv_ldc2 (v := 7230584) hx hb hown (htb _ tw_824) d_MD_bad_14 ?_
    refine pz_lgt (tgt := 33) hx hb d_MD_bad_17 d_MD_bad_18 (by decide) (fun c_2 => ?_) (fun c_2 => ?_)
    · refine lv_lload_n hx hb d_MD_bad_33 rfl (lv_at hl 2 rfl) ?_
      refine lv_ldc2 (v := 1663497) hx hb hown (htb _ tw_826) d_MD_bad_34 ?_
      refine pz_llt (tgt := 50) hx hb d_MD_bad_37 d_MD_bad_38 (by decide) (fun c_3 => ?_) (fun c_3 => ?_)
      · refine lv_lload hx hb d_MD_bad_50 (lv_at hl 0 rfl) ?_
        refine lv_ldc2 (v := 1290) hx hb hown (htb _ tw_827) d_MD_bad_52 ?_
        refine pz_lle (tgt := 65) hx hb d_MD_bad_55 d_MD_bad_56 (by decide) (fun c_4 => ?_) (fun c_4 => ?_)
        · refine lv_lload hx hb d_MD_bad_65 (lv_at hl 0 rfl) ?_
          refine lv_lload hx hb d_MD_bad_67 (lv_at hl 0 rfl) ?_
          refine lv_lmul hx hb d_MD_bad_69 ?_
          refine lv_lload hx hb d_MD_bad_70 (lv_at hl 0 rfl) ?_
          refine lv_lmul hx hb d_MD_bad_72 ?_
          refine lv_ldc2 (v := 131072) hx hb hown (htb _ tw_828) d_MD_bad_73 ?_
          refine lv_ladd hx hb d_MD_bad_76 ?_
          refine lv_ldc2 (v := 262144) hx hb hown (htb _ tw_829) d_MD_bad_77 ?_
          have hne5 : ¬ (262144 : Int64) = 0 := by decide
          refine lv_ldiv hx hb d_MD_bad_80 hne5 ?_
          refine lv_l2i hx hb d_MD_bad_81 rfl ?_
          exact pz_iretS hx hb hr rfl hlocks (by rw [k_bad, if_neg (k_nle hpos), if_neg (k_nlt' c_2), if_neg (k_nlt' c_3), if_neg (k_nlt c_4)]) d_MD_bad_82
        · refine lv_sipush (v := 10000) hx hb d_MD_bad_59 (by decide) ?_
          refine lv_goto (tgt := 82) hx hb d_MD_bad_62 (by decide) ?_
          exact pz_iretS hx hb hr rfl hlocks (by rw [k_bad, if_neg (k_nle hpos), if_neg (k_nlt' c_2), if_neg (k_nlt' c_3), if_pos c_4]) d_MD_bad_82
      · refine lv_lload_n hx hb d_MD_bad_41 rfl (lv_at hl 1 rfl) ?_
        refine lv_lload_n hx hb d_MD_bad_42 rfl (lv_at hl 2 rfl) ?_
        refine lv_ldc2 (v := 297) hx hb hown (htb _ tw_825) d_MD_bad_43 ?_
        have hne6 : ¬ (297 : Int64) = 0 := by decide
        refine lv_ldiv hx hb d_MD_bad_46 hne6 ?_
        have hne7 : ¬ (x / 297) = 0 := k_div c_3
        refine lv_ldiv hx hb d_MD_bad_47 hne7 ?_
        refine lv_lstore (lv' := [(4, .long (t / (x / 297))), (0, .long t), (2, .long x)]) hx hb d_MD_bad_48 hl (by decide) rfl (fun ls hl => ?_)
        refine lv_lload hx hb d_MD_bad_50 (lv_at hl 0 rfl) ?_
        refine lv_ldc2 (v := 1290) hx hb hown (htb _ tw_827) d_MD_bad_52 ?_
        refine pz_lle (tgt := 65) hx hb d_MD_bad_55 d_MD_bad_56 (by decide) (fun c_8 => ?_) (fun c_8 => ?_)
        · refine lv_lload hx hb d_MD_bad_65 (lv_at hl 0 rfl) ?_
          refine lv_lload hx hb d_MD_bad_67 (lv_at hl 0 rfl) ?_
          refine lv_lmul hx hb d_MD_bad_69 ?_
          refine lv_lload hx hb d_MD_bad_70 (lv_at hl 0 rfl) ?_
          refine lv_lmul hx hb d_MD_bad_72 ?_
          refine lv_ldc2 (v := 131072) hx hb hown (htb _ tw_828) d_MD_bad_73 ?_
          refine lv_ladd hx hb d_MD_bad_76 ?_
          refine lv_ldc2 (v := 262144) hx hb hown (htb _ tw_829) d_MD_bad_77 ?_
          have hne9 : ¬ (262144 : Int64) = 0 := by decide
          refine lv_ldiv hx hb d_MD_bad_80 hne9 ?_
          refine lv_l2i hx hb d_MD_bad_81 rfl ?_
          exact pz_iretS hx hb hr rfl hlocks (by rw [k_bad, if_neg (k_nle hpos), if_neg (k_nlt' c_2), if_pos c_3, if_neg (k_nlt c_8)]) d_MD_bad_82
        · refine lv_sipush (v := 10000) hx hb d_MD_bad_59 (by decide) ?_
          refine lv_goto (tgt := 82) hx hb d_MD_bad_62 (by decide) ?_
          exact pz_iretS hx hb hr rfl hlocks (by rw [k_bad, if_neg (k_nle hpos), if_neg (k_nlt' c_2), if_pos c_3, if_pos c_8]) d_MD_bad_82
    · refine lv_ldc2 (v := 297) hx hb hown (htb _ tw_825) d_MD_bad_21 ?_
      refine lv_lload_n hx hb d_MD_bad_24 rfl (lv_at hl 1 rfl) ?_
      refine lv_lmul hx hb d_MD_bad_25 ?_
      refine lv_lload_n hx hb d_MD_bad_26 rfl (lv_at hl 2 rfl) ?_
      have hne10 : ¬ x = 0 := k_pos hpos
      refine lv_ldiv hx hb d_MD_bad_27 hne10 ?_
      refine lv_lstore (lv' := [(4, .long (((297 : Int64) * t) / x)), (0, .long t), (2, .long x)]) hx hb d_MD_bad_28 hl (by decide) rfl (fun ls hl => ?_)
      refine lv_goto (tgt := 50) hx hb d_MD_bad_30 (by decide) ?_
      refine lv_lload hx hb d_MD_bad_50 (lv_at hl 0 rfl) ?_
      refine lv_ldc2 (v := 1290) hx hb hown (htb _ tw_827) d_MD_bad_52 ?_
      refine pz_lle (tgt := 65) hx hb d_MD_bad_55 d_MD_bad_56 (by decide) (fun c_11 => ?_) (fun c_11 => ?_)
      · refine lv_lload hx hb d_MD_bad_65 (lv_at hl 0 rfl) ?_
        refine lv_lload hx hb d_MD_bad_67 (lv_at hl 0 rfl) ?_
        refine lv_lmul hx hb d_MD_bad_69 ?_
        refine lv_lload hx hb d_MD_bad_70 (lv_at hl 0 rfl) ?_
        refine lv_lmul hx hb d_MD_bad_72 ?_
        refine lv_ldc2 (v := 131072) hx hb hown (htb _ tw_828) d_MD_bad_73 ?_
        refine lv_ladd hx hb d_MD_bad_76 ?_
        refine lv_ldc2 (v := 262144) hx hb hown (htb _ tw_829) d_MD_bad_77 ?_
        have hne12 : ¬ (262144 : Int64) = 0 := by decide
        refine lv_ldiv hx hb d_MD_bad_80 hne12 ?_
        refine lv_l2i hx hb d_MD_bad_81 rfl ?_
        exact pz_iretS hx hb hr rfl hlocks (by rw [k_bad, if_neg (k_nle hpos), if_pos c_2, if_neg (k_nlt c_11)]) d_MD_bad_82
      · refine lv_sipush (v := 10000) hx hb d_MD_bad_59 (by decide) ?_
        refine lv_goto (tgt := 82) hx hb d_MD_bad_62 (by decide) ?_
        exact pz_iretS hx hb hr rfl hlocks (by rw [k_bad, if_neg (k_nle hpos), if_pos c_2, if_pos c_11]) d_MD_bad_82
  · refine lv_sipush (v := 10000) hx hb d_MD_bad_6 (by decide) ?_
    exact pz_iretS hx hb hr rfl hlocks (by rw [k_bad, if_pos (k_leof c_1)]) d_MD_bad_9
set_option maxHeartbeats 4000000 in
set_option maxRecDepth 100000 in
/-- model: isEndless -/
theorem c_MD_isEndless (l : Launch) (G : gG) (A : Nat → Nat) (hA9 : mJn A) (M : MS) (sz : Nat)  (hn : NN M) : sI l y_MD_isEndless w_MD_isEndless ({ frames := 0, cells := 0, slots := 0, locals := 0 }) G (LM A) (mF G A M) sz [.ref (A 0)] (k_b (0 < k_go M.g)) := by
  refine pz_met (cc := prog_12_method_10_code) (maxL := 1) (ret := (some .boolean)) (by decide) rfl (Nat.le_of_ble_eq_true rfl) ?_
  intro p e s m below meth c ls hx hb hr hml hts hown hlocks hin hsz hK hP hD hS hA hz hl
  have htb : ∀ w ∈ TB, w.before _ s = true := fun w h => hts w (List.mem_cons_of_mem _ h)
  have hl : lv_has ls 1 [(0, .ref (A 0))] := hl
  refine lv_aload_n hx hb d_MD_isEndless_0 rfl (lv_at hl 0 rfl) ?_
  have h_1 : mF G A M (A 0) = .inr (10, [.int M.th, .ref (A 1), .ref (A 2), .ref (A 3), .ref (A 4), .ref (A 5), .int M.ct, .int M.ht, .int M.tp, .int M.gr, .ref (A 6), .ref (A 7), .ref (A 8), .ref (A 9), .ref (A 10), .ref (A 11), .ref (A 12), .int M.pg, .int M.bg, .int M.io, .int M.be, .int M.le, .long M.ln, .long M.dp, .ref (A 13), .long M.sh]) := mf_at hA9 M 0 (by decide)
  refine pz_get (ci := 10) (C := "PageMakerModel") (T := T_MD) (N := 26) hx hb htb in_MD hown hK hP (lm_in (by decide)) h_1 rfl 24 (by decide) (htb _ tw_706) (fun _ h9 => h9) rfl d_MD_isEndless_1 ?_
  refine lv_iconst (v := 1) hx hb d_MD_isEndless_4 (by decide) ?_
  have h_2 : mF G A M (A 13) = .inl (cJ G, 4, .inr (.inl M.g)) := mf_at hA9 M 13 (by decide)
  refine pz_laldN (j := 1) hx hb hK hP 1 (lm_in (by decide)) h_2 rfl (by decide) (by decide) d_MD_isEndless_5 ?_
  refine lv_aload_n hx hb d_MD_isEndless_6 rfl (lv_at hl 0 rfl) ?_
  refine pz_get (ci := 10) (C := "PageMakerModel") (T := T_MD) (N := 26) hx hb htb in_MD hown hK hP (lm_in (by decide)) h_1 rfl 24 (by decide) (htb _ tw_706) (fun _ h9 => h9) rfl d_MD_isEndless_7 ?_
  refine lv_iconst (v := 2) hx hb d_MD_isEndless_10 (by decide) ?_
  refine pz_laldN (j := 2) hx hb hK hP 1 (lm_in (by decide)) h_2 rfl (by decide) (by decide) d_MD_isEndless_11 ?_
  refine lv_ladd hx hb d_MD_isEndless_12 ?_
  refine lv_aload_n hx hb d_MD_isEndless_13 rfl (lv_at hl 0 rfl) ?_
  refine pz_get (ci := 10) (C := "PageMakerModel") (T := T_MD) (N := 26) hx hb htb in_MD hown hK hP (lm_in (by decide)) h_1 rfl 24 (by decide) (htb _ tw_706) (fun _ h9 => h9) rfl d_MD_isEndless_14 ?_
  refine lv_iconst (v := 3) hx hb d_MD_isEndless_17 (by decide) ?_
  refine pz_laldN (j := 3) hx hb hK hP 1 (lm_in (by decide)) h_2 rfl (by decide) (by decide) d_MD_isEndless_18 ?_
  refine lv_ladd hx hb d_MD_isEndless_19 ?_
  refine lv_lconst (v := 0) hx hb d_MD_isEndless_20 rfl ?_
  refine pz_lle (tgt := 29) hx hb d_MD_isEndless_21 d_MD_isEndless_22 (by decide) (fun c_3 => ?_) (fun c_3 => ?_)
  · refine lv_iconst (v := 0) hx hb d_MD_isEndless_29 (by decide) ?_
    exact pz_iretS hx hb hr rfl hlocks (k_b0 (fun h => absurd ((nn_go hn).mpr h) (k_nlt c_3))) d_MD_isEndless_30
  · refine lv_iconst (v := 1) hx hb d_MD_isEndless_25 (by decide) ?_
    refine lv_goto (tgt := 30) hx hb d_MD_isEndless_26 (by decide) ?_
    exact pz_iretS hx hb hr rfl hlocks (k_b1 ((nn_go hn).mp c_3)) d_MD_isEndless_30
set_option maxHeartbeats 4000000 in
set_option maxRecDepth 100000 in
/-- model: badness -/
theorem c_MD_badness (l : Launch) (G : gG) (A : Nat → Nat) (hA9 : mJn A) (M : MS) (sz : Nat) (j : Nat) (h : Int32) (hj : j ≤ 2000) (hh : M.hs j = h) (hn : NN M) : sI l y_MD_badness w_MD_badness ({ frames := 1, cells := 0, slots := 0, locals := 25 }) G (LM A) (mF G A M) sz [.ref (A 0), .int (nI j)] (fun r => r = k_boe M.g M.sh (h.toInt64 - M.ln)) := by
  refine pz_met (cc := prog_12_method_11_code) (maxL := 4) (ret := (some .int)) (by decide) rfl (Nat.le_of_ble_eq_true rfl) ?_
  intro p e s m below meth c ls hx hb hr hml hts hown hlocks hin hsz hK hP hD hS hA hz hl
  have htb : ∀ w ∈ TB, w.before _ s = true := fun w h => hts w (List.mem_cons_of_mem _ h)
  have hl : lv_has ls 4 [(0, .ref (A 0)), (1, .int (nI j))] := hl
  refine lv_aload_n hx hb d_MD_badness_0 rfl (lv_at hl 0 rfl) ?_
  have h_1 : mF G A M (A 0) = .inr (10, [.int M.th, .ref (A 1), .ref (A 2), .ref (A 3), .ref (A 4), .ref (A 5), .int M.ct, .int M.ht, .int M.tp, .int M.gr, .ref (A 6), .ref (A 7), .ref (A 8), .ref (A 9), .ref (A 10), .ref (A 11), .ref (A 12), .int M.pg, .int M.bg, .int M.io, .int M.be, .int M.le, .long M.ln, .long M.dp, .ref (A 13), .long M.sh]) := mf_at hA9 M 0 (by decide)
  refine pz_get (ci := 10) (C := "PageMakerModel") (T := T_MD) (N := 26) hx hb htb in_MD hown hK hP (lm_in (by decide)) h_1 rfl 10 (by decide) (htb _ tw_692) (fun _ h9 => h9) rfl d_MD_badness_1 ?_
  refine lv_iload_n hx hb d_MD_badness_4 rfl (lv_at hl 1 rfl) ?_
  have h_2 : mF G A M (A 6) = .inl (cI G, 2001, .inl M.hs) := mf_at hA9 M 6 (by decide)
  refine pz_iald (j := j) hx hb hK hP 0 (lm_in (by decide)) h_2 rfl (by omega) (by decide) d_MD_badness_5 ?_
  refine lv_topi (fun x3 ex3 => ?_)
  have ex3 : x3 = h := ex3.trans (hh)
  rw [ex3]
  refine lv_i2l hx hb d_MD_badness_6 rfl ?_
  refine lv_aload_n hx hb d_MD_badness_7 rfl (lv_at hl 0 rfl) ?_
  refine pz_get (ci := 10) (C := "PageMakerModel") (T := T_MD) (N := 26) hx hb htb in_MD hown hK hP (lm_in (by decide)) h_1 rfl 22 (by decide) (htb _ tw_704) (fun _ h9 => h9) rfl d_MD_badness_8 ?_
  refine lv_lsub hx hb d_MD_badness_11 ?_
  refine lv_lstore_n (lv' := [(2, .long (h.toInt64 - M.ln)), (0, .ref (A 0)), (1, .int (nI j))]) hx hb d_MD_badness_12 rfl hl (by decide) rfl (fun ls hl => ?_)
  refine lv_lload_n hx hb d_MD_badness_13 rfl (lv_at hl 0 rfl) ?_
  refine lv_lconst (v := 0) hx hb d_MD_badness_14 rfl ?_
  refine pz_lne (tgt := 21) hx hb d_MD_badness_15 d_MD_badness_16 (by decide) (fun c_4 => ?_) (fun c_4 => ?_)
  · refine lv_lload_n hx hb d_MD_badness_21 rfl (lv_at hl 0 rfl) ?_
    refine lv_lconst (v := 0) hx hb d_MD_badness_22 rfl ?_
    refine pz_lle (tgt := 49) hx hb d_MD_badness_23 d_MD_badness_24 (by decide) (fun c_5 => ?_) (fun c_5 => ?_)
    · refine lv_lload_n hx hb d_MD_badness_49 rfl (lv_at hl 0 rfl) ?_
      refine lv_lneg hx hb d_MD_badness_50 ?_
      refine lv_aload_n hx hb d_MD_badness_51 rfl (lv_at hl 1 rfl) ?_
      refine pz_get (ci := 10) (C := "PageMakerModel") (T := T_MD) (N := 26) hx hb htb in_MD hown hK hP (lm_in (by decide)) h_1 rfl 25 (by decide) (htb _ tw_707) (fun _ h9 => h9) rfl d_MD_badness_52 ?_
      refine pz_lle (tgt := 64) hx hb d_MD_badness_55 d_MD_badness_56 (by decide) (fun c_6 => ?_) (fun c_6 => ?_)
      · refine lv_lload_n hx hb d_MD_badness_64 rfl (lv_at hl 0 rfl) ?_
        refine lv_lneg hx hb d_MD_badness_65 ?_
        refine lv_aload_n hx hb d_MD_badness_66 rfl (lv_at hl 1 rfl) ?_
        refine pz_get (ci := 10) (C := "PageMakerModel") (T := T_MD) (N := 26) hx hb htb in_MD hown hK hP (lm_in (by decide)) h_1 rfl 25 (by decide) (htb _ tw_707) (fun _ h9 => h9) rfl d_MD_badness_67 ?_
        refine vp_callSi (va_Run.run (va_runS (As := [.long (-(h.toInt64 - M.ln)), .long M.sh]) (rest := []) ⟨hx, hb, hml, hown, hts⟩ (c_MD_bad l (-(h.toInt64 - M.ln)) M.sh (nn_sh hn)) (cwS 2 hts (tb_S tw_821 tw_822 tw_8 tw_823) rfl rfl rfl (by decide +kernel) ⟨(Nat.le_of_ble_eq_true rfl), (Nat.le_of_ble_eq_true rfl)⟩) pz_preP rfl rfl hl.1 rfl (lv_room (Nat.le_of_ble_eq_true rfl)) d_MD_badness_70 ⟨(Nat.le_of_ble_eq_true rfl), (Nat.le_of_ble_eq_true rfl)⟩)) (fun r7 hw => ?_)
        have hw : r7 = (k_bad (-(h.toInt64 - M.ln)) M.sh) := hw
        subst r7
        exact pz_iretS hx hb hr rfl hlocks (by rw [k_boe, if_neg (k_nlt c_5), if_neg c_4, if_neg (k_nlt c_6)]) d_MD_badness_73
      · refine lv_ldc (v := 1073741823) hx hb hown (htb _ tw_681) d_MD_badness_59 ?_
        refine lv_goto (tgt := 73) hx hb d_MD_badness_61 (by decide) ?_
        exact pz_iretS hx hb hr rfl hlocks (by rw [k_boe, if_neg (k_nlt c_5), if_neg c_4, if_pos c_6]) d_MD_badness_73
    · refine lv_aload_n hx hb d_MD_badness_27 rfl (lv_at hl 1 rfl) ?_
      refine vp_callSi (va_Run.run (va_runV (As := []) (rest := []) ⟨hx, hb, hml, hown, hts⟩ (c_MD_isEndless l G A hA9 M _ hn) (cwV 0 hts (tb_V tw_817 tw_819 tp_22 tw_8 tw_820) rfl rfl rfl (by decide +kernel) ⟨(Nat.le_of_ble_eq_true rfl), (Nat.le_of_ble_eq_true rfl)⟩) (pz_preV (zz_ok _ _ _) hK hP hD hS hA hz (ci := 10) rfl rfl (lm_in (by decide)) h_1) rfl rfl hl.1 rfl (lv_room (Nat.le_of_ble_eq_true rfl)) d_MD_badness_28 ⟨(Nat.le_of_ble_eq_true rfl), (Nat.le_of_ble_eq_true rfl)⟩)) (fun r8 hw => ?_)
      rcases (show k_b (0 < k_go M.g) r8 from hw) with ⟨rfl, hq9⟩ | ⟨rfl, hq9⟩
      · refine lv_if_eq (tgt := 38) hx hb d_MD_badness_31 (by decide) (fun c0 => absurd c0 (by decide)) (fun _ => ?_)
        refine lv_iconst (v := 0) hx hb d_MD_badness_34 (by decide) ?_
        refine lv_goto (tgt := 48) hx hb d_MD_badness_35 (by decide) ?_
        exact pz_iretS hx hb hr rfl hlocks (by rw [k_boe, if_pos c_5, if_pos hq9]) d_MD_badness_48
      · refine lv_if_eq (tgt := 38) hx hb d_MD_badness_31 (by decide) (fun _ => ?_) (fun c0 => absurd c0 (by decide))
        refine lv_lload_n hx hb d_MD_badness_38 rfl (lv_at hl 0 rfl) ?_
        refine lv_aload_n hx hb d_MD_badness_39 rfl (lv_at hl 1 rfl) ?_
        refine pz_get (ci := 10) (C := "PageMakerModel") (T := T_MD) (N := 26) hx hb htb in_MD hown hK hP (lm_in (by decide)) h_1 rfl 24 (by decide) (htb _ tw_706) (fun _ h9 => h9) rfl d_MD_badness_40 ?_
        refine lv_iconst (v := 0) hx hb d_MD_badness_43 (by decide) ?_
        have h_10 : mF G A M (A 13) = .inl (cJ G, 4, .inr (.inl M.g)) := mf_at hA9 M 13 (by decide)
        refine pz_laldN (j := 0) hx hb hK hP 1 (lm_in (by decide)) h_10 rfl (by decide) (by decide) d_MD_badness_44 ?_
        refine vp_callSi (va_Run.run (va_runS (As := [.long (h.toInt64 - M.ln), .long (M.g 0)]) (rest := []) ⟨hx, hb, hml, hown, hts⟩ (c_MD_bad l (h.toInt64 - M.ln) (M.g 0) (nn_g0 hn)) (cwS 2 hts (tb_S tw_821 tw_822 tw_8 tw_823) rfl rfl rfl (by decide +kernel) ⟨(Nat.le_of_ble_eq_true rfl), (Nat.le_of_ble_eq_true rfl)⟩) pz_preP rfl rfl hl.1 rfl (lv_room (Nat.le_of_ble_eq_true rfl)) d_MD_badness_45 ⟨(Nat.le_of_ble_eq_true rfl), (Nat.le_of_ble_eq_true rfl)⟩)) (fun r11 hw => ?_)
        have hw : r11 = (k_bad (h.toInt64 - M.ln) (M.g 0)) := hw
        subst r11
        exact pz_iretS hx hb hr rfl hlocks (by rw [k_boe, if_pos c_5, if_neg hq9]) d_MD_badness_48
  · refine lv_iconst (v := 0) hx hb d_MD_badness_19 (by decide) ?_
    exact pz_iretS hx hb hr rfl hlocks (by rw [k_boe, if_neg (fun h9 => k_pos h9 c_4), if_pos c_4]) d_MD_badness_20
set_option maxHeartbeats 4000000 in
set_option maxRecDepth 100000 in
/-- model: cost -/
theorem c_MD_cost (l : Launch) (G : gG) (A : Nat → Nat) (hA9 : mJn A) (M : MS) (sz : Nat) (j : Nat) (h pp : Int32) (hj : j ≤ 2000) (hh : M.hs j = h) (hn : NN M) : sI l y_MD_cost w_MD_cost ({ frames := 2, cells := 0, slots := 0, locals := 48 }) G (LM A) (mF G A M) sz [.ref (A 0), .int (nI j), .int pp] (fun r => r = k_cost (k_boe M.g M.sh (h.toInt64 - M.ln)) pp) := by
  refine pz_met (cc := prog_12_method_12_code) (maxL := 4) (ret := (some .int)) (by decide) rfl (Nat.le_of_ble_eq_true rfl) ?_
  intro p e s m below meth c ls hx hb hr hml hts hown hlocks hin hsz hK hP hD hS hA hz hl
  have htb : ∀ w ∈ TB, w.before _ s = true := fun w h => hts w (List.mem_cons_of_mem _ h)
  have hl : lv_has ls 4 [(0, .ref (A 0)), (1, .int (nI j)), (2, .int pp)] := hl
  refine lv_aload_n hx hb d_MD_cost_0 rfl (lv_at hl 0 rfl) ?_
  refine lv_iload_n hx hb d_MD_cost_1 rfl (lv_at hl 1 rfl) ?_
  have h_1 : mF G A M (A 0) = .inr (10, [.int M.th, .ref (A 1), .ref (A 2), .ref (A 3), .ref (A 4), .ref (A 5), .int M.ct, .int M.ht, .int M.tp, .int M.gr, .ref (A 6), .ref (A 7), .ref (A 8), .ref (A 9), .ref (A 10), .ref (A 11), .ref (A 12), .int M.pg, .int M.bg, .int M.io, .int M.be, .int M.le, .long M.ln, .long M.dp, .ref (A 13), .long M.sh]) := mf_at hA9 M 0 (by decide)
  refine vp_callSi (va_Run.run (va_runV (As := [.int (nI j)]) (rest := []) ⟨hx, hb, hml, hown, hts⟩ (c_MD_badness l G A hA9 M _ j h hj hh hn) (cwV 1 hts (tb_V tw_813 tw_815 tp_21 tw_8 tw_816) rfl rfl rfl (by decide +kernel) ⟨(Nat.le_of_ble_eq_true rfl), (Nat.le_of_ble_eq_true rfl)⟩) (pz_preV (zz_ok _ _ _) hK hP hD hS hA hz (ci := 10) rfl rfl (lm_in (by decide)) h_1) rfl rfl hl.1 rfl (lv_room (Nat.le_of_ble_eq_true rfl)) d_MD_cost_2 ⟨(Nat.le_of_ble_eq_true rfl), (Nat.le_of_ble_eq_true rfl)⟩)) (fun r2 hw => ?_)
  have hw : r2 = (k_boe M.g M.sh (h.toInt64 - M.ln)) := hw
  subst r2
  refine lv_istore_n (lv' := [(3, .int (k_boe M.g M.sh (h.toInt64 - M.ln))), (0, .ref (A 0)), (1, .int (nI j)), (2, .int pp)]) hx hb d_MD_cost_5 rfl hl (by decide) rfl (fun ls hl => ?_)
  refine lv_iload_n hx hb d_MD_cost_6 rfl (lv_at hl 0 rfl) ?_
  refine lv_ldc (v := 1073741823) hx hb hown (htb _ tw_681) d_MD_cost_7 ?_
  refine lv_icmp_ne (tgt := 17) hx hb d_MD_cost_9 (by decide) (fun c_3 => ?_) (fun c_3 => ?_)
  · refine lv_iload_n hx hb d_MD_cost_17 rfl (lv_at hl 3 rfl) ?_
    refine lv_sipush (v := (-10000)) hx hb d_MD_cost_18 (by decide) ?_
    refine lv_icmp_gt (tgt := 28) hx hb d_MD_cost_21 (by decide) (fun c_4 => ?_) (fun c_4 => ?_)
    · refine lv_iload_n hx hb d_MD_cost_28 rfl (lv_at hl 0 rfl) ?_
      refine lv_sipush (v := 10000) hx hb d_MD_cost_29 (by decide) ?_
      refine lv_icmp_ge (tgt := 41) hx hb d_MD_cost_32 (by decide) (fun c_5 => ?_) (fun c_5 => ?_)
      · refine lv_ldc (v := 100000) hx hb hown (htb _ tw_830) d_MD_cost_41 ?_
        exact pz_iretS hx hb hr rfl hlocks (by rw [k_cost, if_neg c_3, if_neg (i32_nle c_4), if_neg (i32_nlt c_5)]) d_MD_cost_43
      · refine lv_iload_n hx hb d_MD_cost_35 rfl (lv_at hl 0 rfl) ?_
        refine lv_iload_n hx hb d_MD_cost_36 rfl (lv_at hl 3 rfl) ?_
        refine lv_iadd hx hb d_MD_cost_37 ?_
        refine lv_goto (tgt := 43) hx hb d_MD_cost_38 (by decide) ?_
        exact pz_iretS hx hb hr rfl hlocks (by rw [k_cost, if_neg c_3, if_neg (i32_nle c_4), if_pos (i32_lt c_5)]) d_MD_cost_43
    · refine lv_iload_n hx hb d_MD_cost_24 rfl (lv_at hl 3 rfl) ?_
      refine lv_goto (tgt := 43) hx hb d_MD_cost_25 (by decide) ?_
      exact pz_iretS hx hb hr rfl hlocks (by rw [k_cost, if_neg c_3, if_pos (i32_le c_4)]) d_MD_cost_43
  · refine lv_ldc (v := 1073741823) hx hb hown (htb _ tw_681) d_MD_cost_12 ?_
    refine lv_goto (tgt := 43) hx hb d_MD_cost_14 (by decide) ?_
    exact pz_iretS hx hb hr rfl hlocks (by rw [k_cost, if_pos c_3]) d_MD_cost_43
