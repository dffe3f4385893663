/-! THE MODEL: page, open, where -/
theorem mr_ir {M M1 : MS} {S : CS} (hi : M1.i = M.i) (hr : M1.r = M.r) (h : MR M S) : MR M1 S := by
  obtain ⟨i, j, r, g⟩ := M
  obtain ⟨i1, j1, r1, g1⟩ := M1
  obtain rfl : i1 = i := hi
  obtain rfl : r1 = r := hr
  exact h
theorem go_tm {g g1 : Nat → Int64} (h : ∀ j, j < 4 → g j = g1 j) : k_go g = k_go g1 := by
  unfold k_go
  rw [h 1 (by decide), h 2 (by decide), h 3 (by decide)]
theorem ord_tm {M : MS} {T : Tt} (h : TM M T) (ex : Int64) : k_ord M.g ex = k_ord T.2.2.2 ex := by
  unfold k_ord
  rw [go_tm h.2.2.2]
theorem vp_go (g : Nat → Int64) : vp_in (k_go g) 4 := by
  unfold k_go
  split
  · exact vp_in_nI (n := 3) (N := 4) (by decide) (by decide)
  · split
    · exact vp_in_nI (n := 2) (N := 4) (by decide) (by decide)
    · split
      · exact vp_in_nI (n := 1) (N := 4) (by decide) (by decide)
      · exact vp_in_nI (n := 0) (N := 4) (by decide) (by decide)
theorem vp_ord (g : Nat → Int64) (ex : Int64) : vp_in (k_ord g ex) 4 := by
  unfold k_ord
  split
  · exact vp_go g
  · exact vp_in_nI (n := 0) (N := 4) (by decide) (by decide)
theorem tot_tm {M : MS} {T : Tt} {ex : Int64} (h : TM M T) (h0 : 0 < ex) : M.g (k_ord M.g ex).toNatClampNeg = k_tot T.2.2.2 T.2.2.1 ex := by
  rw [ord_tm h, k_ord, k_tot, if_pos h0, if_pos h0]
  exact h.2.2.2 _ (Nat.not_le.mp fun q => vp_go T.2.2.2 (Or.inr q))
theorem i32_lt8 {x : Int32} (h : x ≤ 7) : x < 8 := by
  rw [Int32.le_iff_toInt_le] at h
  rw [Int32.lt_iff_toInt_lt]
  have e1 : (8 : Int32).toInt = 8 := by decide
  have e2 : (7 : Int32).toInt = 7 := by decide
  omega
theorem i32_lt10 {x : Int32} (h : x ≤ 9) : x < 10 := by
  rw [Int32.le_iff_toInt_le] at h
  rw [Int32.lt_iff_toInt_lt]
  have e1 : (10 : Int32).toInt = 10 := by decide
  have e2 : (9 : Int32).toInt = 9 := by decide
  omega
/-- what where has found among the first k pages -/
abbrev holds9 (pg : Fr × Pg) (i : Int32) : Prop := pg.2.1 ≤ i ∧ i < pg.2.2.1
def whI (pgs : List (Fr × Pg)) (i : Int32) (k : Nat) (x : Int32) : Prop := (x = (-1) ∧ ∀ (n : Nat) (pg : Fr × Pg), n < k → pgs[n]? = some pg → ¬ holds9 pg i) ∨ ∃ (j : Nat) (pg : Fr × Pg), x = nI j ∧ j < k ∧ pgs[j]? = some pg ∧ holds9 pg i
theorem wh_0 {pgs : List (Fr × Pg)} {i : Int32} : whI pgs i 0 (-1) := Or.inl ⟨rfl, fun n pg h => absurd h (Nat.not_lt_zero _)⟩
theorem wh_no {pgs : List (Fr × Pg)} {i x : Int32} {k : Nat} {pg : Fr × Pg} (h : whI pgs i k x) (hp : pgs[k]? = some pg) (hn : ¬ (pg.2.1 ≤ i ∧ i < pg.2.2.1)) : whI pgs i (k + 1) x := by
  rcases h with ⟨h1, h2⟩ | ⟨j, q, h1, h2, h3, h4⟩
  · refine Or.inl ⟨h1, fun n q hn9 hq => ?_⟩
    by_cases e : n = k
    · subst e
      obtain rfl : pg = q := Option.some.inj (hp.symm.trans hq)
      exact hn
    · exact h2 n q (by omega) hq
  · exact Or.inr ⟨j, q, h1, by omega, h3, h4⟩
theorem wh_yes {pgs : List (Fr × Pg)} {i : Int32} {k : Nat} {pg : Fr × Pg} (hp : pgs[k]? = some pg) (hn : pg.2.1 ≤ i ∧ i < pg.2.2.1) : whI pgs i (k + 1) (nI k) := Or.inr ⟨k, pg, rfl, by omega, hp, hn⟩
theorem wh_none {i : Int32} (pgs : List (Fr × Pg)) : ∀ k, (∀ (n : Nat) (pg : Fr × Pg), pgs[n]? = some pg → ¬ holds9 pg i) → wh_v pgs i k = (-1) := by
  induction pgs with
  | nil => intro k _; rfl
  | cons p r ih =>
    intro k h
    rw [wh_v, if_neg (h 0 p rfl)]
    exact ih (k + 1) (fun n pg hn => h (n + 1) pg hn)
theorem wh_one {i : Int32} (pgs : List (Fr × Pg)) : ∀ (k j : Nat) (pg : Fr × Pg), pgs[j]? = some pg → holds9 pg i → (∀ (n : Nat) (q : Fr × Pg), n < j → pgs[n]? = some q → ¬ holds9 q i) → wh_v pgs i k = nI (k + j) := by
  induction pgs with
  | nil => intro k j pg h; exact absurd h (by simp)
  | cons p r ih =>
    intro k j pg h hh hn
    cases j with
    | zero =>
      obtain rfl : p = pg := Option.some.inj h
      rw [wh_v, if_pos hh, Nat.add_zero]
    | succ j =>
      rw [wh_v, if_neg (hn 0 p (by omega) rfl), ih (k + 1) j pg h hh (fun n q h1 h2 => hn (n + 1) q (by omega) h2)]
      congr 1
      omega
theorem wh_of {its : List It} {pgs : List (Fr × Pg)} {i x : Int32} (hv : PV its pgs) (h : whI pgs i pgs.length x) : x = wh_v pgs i 0 := by
  rcases h with ⟨rfl, h⟩ | ⟨j, pg, rfl, h1, h2, h3⟩
  · exact (wh_none pgs 0 (fun n pg hn => h n pg (List.getElem?_eq_some_iff.mp hn).1 hn)).symm
  · rw [wh_one pgs 0 j pg h2 h3 (fun n q hn hq hh => ?_), Nat.zero_add]
    have h4 := hv.2 n j q pg hn hq h2
    have h5 := h3.1
    have h6 := hh.2
    rw [Int32.le_iff_toInt_le] at h4 h5
    rw [Int32.lt_iff_toInt_lt] at h6
    omega
set_option maxHeartbeats 4000000 in
set_option maxRecDepth 100000 in
/-- model: page(k, n) -/
theorem c_MD_page (l : Launch) (G : gG) (A : Nat → Nat) (hA9 : mJn A) (M : MS) (sz : Nat) (S : CS) (k n : Nat) (hJ : J S S.1.length) (hR : MR M S) (pg : Fr × Pg) (hp9 : S.2.2.1[k]? = some pg) (hn : n < 8) : mJ l y_MD_page w_MD_page ({ frames := 2, cells := 0, slots := 0, locals := 48 }) G (LM A) (mF G A M) sz [.ref (A 0), .int (nI k), .int (nI n)] 0 0 (fun r u => ∃ M1, u = (LM A, mF G A M1) ∧ r = pg_v pg.2 n ∧ MR M1 S ∧ M1.th = 0) := by
  refine pz_met (cc := prog_12_method_25_code) (maxL := 5) (ret := (some .long)) (by decide) rfl (Nat.le_of_ble_eq_true rfl) ?_
  intro p e s m below meth c ls hx hb hr hml hts hown hlocks hin hsz hK hP hD hS hA hz hl
  have htb : ∀ w ∈ TB, w.before _ s = true := fun w h => hts w (List.mem_cons_of_mem _ h)
  have hl : lv_has ls 5 [(0, .ref (A 0)), (1, .int (nI k)), (2, .int (nI n))] := hl
  have hn5 : S.1.length ≤ 512 := hJ.2.1
  have hp5 : S.2.2.1.length ≤ 512 := j_pgs hJ
  have hk1 : k < S.2.2.1.length := (List.getElem?_eq_some_iff.mp hp9).1
  have q5 : M.pg = nI S.2.2.1.length := hR.1.2.2.2.2.1
  obtain ⟨m6, m7, m8, m9, m10, m11, m12⟩ := hR.1.2.2.2.2.2 k pg hp9
  obtain ⟨a, b, hG⟩ := hJ.2.2.2.1.1 k pg hp9
  obtain ⟨hab, hbn, ⟨b0, b1, hbx⟩, g1, g2, g3, g4, g5, g6, hF⟩ := hG
  refine lv_aload_n hx hb d_MD_page_0 rfl (lv_at hl 0 rfl) ?_
  refine lv_iload_n hx hb d_MD_page_1 rfl (lv_at hl 1 rfl) ?_
  refine lv_if_lt (tgt := 23) hx hb d_MD_page_2 (by decide) (fun c0 => absurd c0 (nI_pos (by omega))) (fun _ => ?_)
  refine lv_iload_n hx hb d_MD_page_5 rfl (lv_at hl 1 rfl) ?_
  refine lv_aload_n hx hb d_MD_page_6 rfl (lv_at hl 0 rfl) ?_
  have h_1 : mF G A M (A 0) = .inr (10, [.int M.th, .ref (A 1), .ref (A 2), .ref (A 3), .ref (A 4), .ref (A 5), .int M.ct, .int M.ht, .int M.tp, .int M.gr, .ref (A 6), .ref (A 7), .ref (A 8), .ref (A 9), .ref (A 10), .ref (A 11), .ref (A 12), .int M.pg, .int M.bg, .int M.io, .int M.be, .int M.le, .long M.ln, .long M.dp, .ref (A 13), .long M.sh]) := mf_at hA9 M 0 (by decide)
  refine pz_get (ci := 10) (C := "PageMakerModel") (T := T_MD) (N := 26) hx hb htb in_MD hown hK hP (lm_in (by decide)) h_1 rfl 17 (by decide) (htb _ tw_699) (fun _ h9 => h9) rfl d_MD_page_7 ?_
  refine lv_topi (fun x2 ex2 => ?_)
  have ex2 : x2 = nI S.2.2.1.length := ex2.trans (q5)
  subst ex2
  refine lv_icmp_ge (tgt := 23) hx hb d_MD_page_10 (by decide) (fun c0 => absurd c0 (nI_ge (by omega) (by omega))) (fun _ => ?_)
  refine lv_iload_n hx hb d_MD_page_13 rfl (lv_at hl 2 rfl) ?_
  refine lv_if_lt (tgt := 23) hx hb d_MD_page_14 (by decide) (fun c0 => absurd c0 (nI_pos (by omega))) (fun _ => ?_)
  refine lv_iload_n hx hb d_MD_page_17 rfl (lv_at hl 2 rfl) ?_
  refine lv_bipush (v := 7) hx hb d_MD_page_18 (by decide) ?_
  refine lv_icmp_le (tgt := 27) hx hb d_MD_page_20 (by decide) (fun _ => ?_) (fun c0 => absurd (nI_le (b := 7) (by omega) (by omega)) c0)
  refine lv_iconst (v := 0) hx hb d_MD_page_27 (by decide) ?_
  refine pz_put (ci := 10) (v := .int 0) (ty := .int) (C := "PageMakerModel") (T := T_MD) (N := 26) hx hb htb in_MD ty_MD to_MD nm_MD hown hK hP hD hS (lm_in (by decide)) h_1 rfl 0 (by decide) (htb _ tw_682) (fun _ h9 => h9) rfl rfl rfl rfl (Nat.le_of_ble_eq_true rfl) d_MD_page_28 (fun f3 H locs ef3 hP hD hS => ?_)
  have ef3 : f3 = va_up (mF G A M) (A 0) (.inr (10, [.int 0, .ref (A 1), .ref (A 2), .ref (A 3), .ref (A 4), .ref (A 5), .int M.ct, .int M.ht, .int M.tp, .int M.gr, .ref (A 6), .ref (A 7), .ref (A 8), .ref (A 9), .ref (A 10), .ref (A 11), .ref (A 12), .int M.pg, .int M.bg, .int M.io, .int M.be, .int M.le, .long M.ln, .long M.dp, .ref (A 13), .long M.sh])) := ef3
  have ef3 : f3 = mF G A (M.si 0 0) := ef3.trans (mf_o hA9 (M1 := M.si 0 0) rfl rfl)
  subst ef3
  refine lv_aload_n hx hb d_MD_page_31 rfl (lv_at hl 0 rfl) ?_
  have h_4 : mF G A (M.si 0 0) (A 0) = .inr (10, [.int 0, .ref (A 1), .ref (A 2), .ref (A 3), .ref (A 4), .ref (A 5), .int M.ct, .int M.ht, .int M.tp, .int M.gr, .ref (A 6), .ref (A 7), .ref (A 8), .ref (A 9), .ref (A 10), .ref (A 11), .ref (A 12), .int M.pg, .int M.bg, .int M.io, .int M.be, .int M.le, .long M.ln, .long M.dp, .ref (A 13), .long M.sh]) := mf_at hA9 (M.si 0 0) 0 (by decide)
  refine pz_get (ci := 10) (C := "PageMakerModel") (T := T_MD) (N := 26) hx hb htb in_MD hown hK hP (lm_in (by decide)) h_4 rfl 0 (by decide) (htb _ tw_682) (fun _ h9 => h9) rfl d_MD_page_32 ?_
  refine lv_if_le (tgt := 40) hx hb d_MD_page_35 (by decide) (fun _ => ?_) (fun c0 => absurd c0 (by decide))
  refine lv_aload_n hx hb d_MD_page_40 rfl (lv_at hl 0 rfl) ?_
  refine lv_iload_n hx hb d_MD_page_41 rfl (lv_at hl 1 rfl) ?_
  refine lv_aload_n hx hb d_MD_page_42 rfl (lv_at hl 0 rfl) ?_
  refine pz_get (ci := 10) (C := "PageMakerModel") (T := T_MD) (N := 26) hx hb htb in_MD hown hK hP (lm_in (by decide)) h_4 rfl 14 (by decide) (htb _ tw_696) (fun _ h9 => h9) rfl d_MD_page_43 ?_
  refine lv_iload_n hx hb d_MD_page_46 rfl (lv_at hl 1 rfl) ?_
  have h_5 : mF G A (M.si 0 0) (A 10) = .inl (cI G, 2001, .inl M.es) := mf_at hA9 (M.si 0 0) 10 (by decide)
  refine pz_iald (j := k) hx hb hK hP 0 (lm_in (by decide)) h_5 rfl (by omega) (by decide) d_MD_page_47 ?_
  refine lv_topi (fun x6 ex6 => ?_)
  have ex6 : x6 = nI b := ex6.trans ((m10.trans g2))
  subst ex6
  refine pz_cv (va_runV (As := [.int (nI k), .int (nI b)]) (rest := []) ⟨hx, hb, hml, hown, hts⟩ (c_MD_addUpTo l G A hA9 (M.si 0 0) _ S.1 pg.1 k a b b0 b1 (by omega) hR.1.1 ⟨m6, m7, m8, m9.trans g1⟩ hbx (by omega) hbn) (cwV 2 hts (tb_V tw_856 tw_858 tp_23 tw_8 tw_859) rfl rfl rfl (by decide +kernel) ⟨(Nat.le_of_ble_eq_true rfl), (Nat.le_of_ble_eq_true rfl)⟩) (pz_preV (zz_ok _ _ _) hK hP hD hS hA hz (ci := 10) rfl rfl (lm_in (by decide)) h_4) rfl rfl hl.1 rfl (lv_room (Nat.le_of_ble_eq_true rfl)) d_MD_page_48 ⟨(Nat.le_of_ble_eq_true rfl), (Nat.le_of_ble_eq_true rfl)⟩) hP hD hS hA (fun L8 f8 H locs hw hP hD hS => ?_)
  obtain ⟨M1, hu, hmk, htm⟩ := hw
  have eL8 : L8 = LM A := (Prod.mk.inj hu).1
  have ef8 : f8 = mF G A M1 := (Prod.mk.inj hu).2
  subst eL8
  subst ef8
  have hR1 : MR M1 S := mr_ir hmk.1 hmk.2 (mr_th hR)
  have hth1 : M1.th = 0 := congrFun hmk.1 0
  have r1 : ∀ c i, M1.r c i = M.r c i := fun c i => congrFun (congrFun hmk.2 c) i
  have e1 : M1.ln = (t_list S.1 pg.1 a b).1 := htm.1
  refine lv_aload_n hx hb d_MD_page_51 rfl (lv_at hl 0 rfl) ?_
  have h_7 : mF G A M1 (A 0) = .inr (10, [.int M1.th, .ref (A 1), .ref (A 2), .ref (A 3), .ref (A 4), .ref (A 5), .int M1.ct, .int M1.ht, .int M1.tp, .int M1.gr, .ref (A 6), .ref (A 7), .ref (A 8), .ref (A 9), .ref (A 10), .ref (A 11), .ref (A 12), .int M1.pg, .int M1.bg, .int M1.io, .int M1.be, .int M1.le, .long M1.ln, .long M1.dp, .ref (A 13), .long M1.sh]) := mf_at hA9 M1 0 (by decide)
  refine pz_get (ci := 10) (C := "PageMakerModel") (T := T_MD) (N := 26) hx hb htb in_MD hown hK hP (lm_in (by decide)) h_7 rfl 10 (by decide) (htb _ tw_692) (fun _ h9 => h9) rfl d_MD_page_52 ?_
  refine lv_iload_n hx hb d_MD_page_55 rfl (lv_at hl 1 rfl) ?_
  have h_8 : mF G A M1 (A 6) = .inl (cI G, 2001, .inl M1.hs) := mf_at hA9 M1 6 (by decide)
  refine pz_iald (j := k) hx hb hK hP 0 (lm_in (by decide)) h_8 rfl (by omega) (by decide) d_MD_page_56 ?_
  refine lv_topi (fun x9 ex9 => ?_)
  have ex9 : x9 = pg.1.1 := ex9.trans (((r1 6 k).trans m6))
  subst ex9
  refine lv_i2l hx hb d_MD_page_57 rfl ?_
  refine lv_aload_n hx hb d_MD_page_58 rfl (lv_at hl 0 rfl) ?_
  refine pz_get (ci := 10) (C := "PageMakerModel") (T := T_MD) (N := 26) hx hb htb in_MD hown hK hP (lm_in (by decide)) h_7 rfl 22 (by decide) (htb _ tw_704) (fun _ h9 => h9) rfl d_MD_page_59 ?_
  refine lv_topl (fun x10 ex10 => ?_)
  have ex10 : x10 = (t_list S.1 pg.1 a b).1 := ex10.trans (e1)
  subst ex10
  refine lv_lsub hx hb d_MD_page_62 ?_
  obtain ⟨ex, hex⟩ : ∃ ex, ex = pg.1.1.toInt64 - (t_list S.1 pg.1 a b).1 := ⟨_, rfl⟩
  refine lv_topl (fun x11 ex11 => ?_)
  have ex11 : x11 = ex := ex11.trans (hex.symm)
  rw [ex11]
  rw [← hex] at g4 g5 g6
  refine lv_lstore_n (lv' := [(3, .long ex), (0, .ref (A 0)), (1, .int (nI k)), (2, .int (nI n))]) hx hb d_MD_page_63 rfl hl (by decide) rfl (fun ls hl => ?_)
  refine lv_iload_n hx hb d_MD_page_64 rfl (lv_at hl 3 rfl) ?_
  rcases (show n = 0 ∨ n = 1 ∨ n = 2 ∨ n = 3 ∨ n = 4 ∨ n = 5 ∨ n = 6 ∨ n = 7 by omega) with rfl | rfl | rfl | rfl | rfl | rfl | rfl | rfl
  · refine lv_tableIn (x := 0) (tgt := 108) hx hb d_MD_page_65 (by decide) (by decide) rfl (by decide) ?_
    refine lv_aload_n hx hb d_MD_page_108 rfl (lv_at hl 1 rfl) ?_
    refine pz_get (ci := 10) (C := "PageMakerModel") (T := T_MD) (N := 26) hx hb htb in_MD hown hK hP (lm_in (by decide)) h_7 rfl 13 (by decide) (htb _ tw_695) (fun _ h9 => h9) rfl d_MD_page_109 ?_
    refine lv_iload_n hx hb d_MD_page_112 rfl (lv_at hl 2 rfl) ?_
    have h_12 : mF G A M1 (A 9) = .inl (cI G, 2001, .inl M1.fs) := mf_at hA9 M1 9 (by decide)
    refine pz_iald (j := k) hx hb hK hP 0 (lm_in (by decide)) h_12 rfl (by omega) (by decide) d_MD_page_113 ?_
    refine lv_topi (fun x13 ex13 => ?_)
    have ex13 : x13 = pg.2.1 := ex13.trans (((r1 9 k).trans m9))
    subst ex13
    refine lv_i2l hx hb d_MD_page_114 rfl ?_
    exact pz_lret hx hb hr hlocks hK hP hD hS (Nat.le_of_ble_eq_true rfl) (Nat.le_of_ble_eq_true rfl) ⟨M1, rfl, rfl, hR1, hth1⟩ d_MD_page_115
  · refine lv_tableIn (x := 1) (tgt := 116) hx hb d_MD_page_65 (by decide) (by decide) rfl (by decide) ?_
    refine lv_aload_n hx hb d_MD_page_116 rfl (lv_at hl 1 rfl) ?_
    refine pz_get (ci := 10) (C := "PageMakerModel") (T := T_MD) (N := 26) hx hb htb in_MD hown hK hP (lm_in (by decide)) h_7 rfl 14 (by decide) (htb _ tw_696) (fun _ h9 => h9) rfl d_MD_page_117 ?_
    refine lv_iload_n hx hb d_MD_page_120 rfl (lv_at hl 2 rfl) ?_
    have h_14 : mF G A M1 (A 10) = .inl (cI G, 2001, .inl M1.es) := mf_at hA9 M1 10 (by decide)
    refine pz_iald (j := k) hx hb hK hP 0 (lm_in (by decide)) h_14 rfl (by omega) (by decide) d_MD_page_121 ?_
    refine lv_topi (fun x15 ex15 => ?_)
    have ex15 : x15 = pg.2.2.1 := ex15.trans (((r1 10 k).trans m10))
    subst ex15
    refine lv_i2l hx hb d_MD_page_122 rfl ?_
    exact pz_lret hx hb hr hlocks hK hP hD hS (Nat.le_of_ble_eq_true rfl) (Nat.le_of_ble_eq_true rfl) ⟨M1, rfl, rfl, hR1, hth1⟩ d_MD_page_123
  · refine lv_tableIn (x := 2) (tgt := 124) hx hb d_MD_page_65 (by decide) (by decide) rfl (by decide) ?_
    refine lv_aload_n hx hb d_MD_page_124 rfl (lv_at hl 1 rfl) ?_
    refine pz_get (ci := 10) (C := "PageMakerModel") (T := T_MD) (N := 26) hx hb htb in_MD hown hK hP (lm_in (by decide)) h_7 rfl 15 (by decide) (htb _ tw_697) (fun _ h9 => h9) rfl d_MD_page_125 ?_
    refine lv_iload_n hx hb d_MD_page_128 rfl (lv_at hl 2 rfl) ?_
    have h_16 : mF G A M1 (A 11) = .inl (cI G, 2001, .inl M1.cs) := mf_at hA9 M1 11 (by decide)
    refine pz_iald (j := k) hx hb hK hP 0 (lm_in (by decide)) h_16 rfl (by omega) (by decide) d_MD_page_129 ?_
    refine lv_topi (fun x17 ex17 => ?_)
    have ex17 : x17 = pg.2.2.2.1 := ex17.trans (((r1 11 k).trans m11))
    subst ex17
    refine lv_i2l hx hb d_MD_page_130 rfl ?_
    exact pz_lret hx hb hr hlocks hK hP hD hS (Nat.le_of_ble_eq_true rfl) (Nat.le_of_ble_eq_true rfl) ⟨M1, rfl, rfl, hR1, hth1⟩ d_MD_page_131
  · refine lv_tableIn (x := 3) (tgt := 132) hx hb d_MD_page_65 (by decide) (by decide) rfl (by decide) ?_
    refine lv_lload_n hx hb d_MD_page_132 rfl (lv_at hl 0 rfl) ?_
    exact pz_lret hx hb hr hlocks hK hP hD hS (Nat.le_of_ble_eq_true rfl) (Nat.le_of_ble_eq_true rfl) ⟨M1, rfl, g4.symm, hR1, hth1⟩ d_MD_page_133
  · refine lv_tableIn (x := 4) (tgt := 134) hx hb d_MD_page_65 (by decide) (by decide) rfl (by decide) ?_
    refine lv_aload_n hx hb d_MD_page_134 rfl (lv_at hl 1 rfl) ?_
    refine lv_lload_n hx hb d_MD_page_135 rfl (lv_at hl 0 rfl) ?_
    refine vp_callSi (va_Run.run (va_runV (As := [.long ex]) (rest := []) ⟨hx, hb, hml, hown, hts⟩ (c_MD_orderOf l G A hA9 M1 _ ex) (cwV 1 hts (tb_V tw_860 tw_862 tp_24 tw_8 tw_863) rfl rfl rfl (by decide +kernel) ⟨(Nat.le_of_ble_eq_true rfl), (Nat.le_of_ble_eq_true rfl)⟩) (pz_preV (zz_ok _ _ _) hK hP hD hS hA hz (ci := 10) rfl rfl (lm_in (by decide)) h_7) rfl rfl hl.1 rfl (lv_room (Nat.le_of_ble_eq_true rfl)) d_MD_page_136 ⟨(Nat.le_of_ble_eq_true rfl), (Nat.le_of_ble_eq_true rfl)⟩)) (fun r18 hw => ?_)
    have hw : r18 = (k_ord M1.g ex) := hw
    subst r18
    refine lv_i2l hx hb d_MD_page_139 rfl ?_
    exact pz_lret hx hb hr hlocks hK hP hD hS (Nat.le_of_ble_eq_true rfl) (Nat.le_of_ble_eq_true rfl) ⟨M1, rfl, (congrArg Int32.toInt64 ((ord_tm htm ex).trans g5.symm)), hR1, hth1⟩ d_MD_page_140
  · refine lv_tableIn (x := 5) (tgt := 141) hx hb d_MD_page_65 (by decide) (by decide) rfl (by decide) ?_
    refine lv_lload_n hx hb d_MD_page_141 rfl (lv_at hl 0 rfl) ?_
    refine lv_lconst (v := 0) hx hb d_MD_page_142 rfl ?_
    refine pz_lle (tgt := 160) hx hb d_MD_page_143 d_MD_page_144 (by decide) (fun c_19 => ?_) (fun c_19 => ?_)
    · refine lv_lload_n hx hb d_MD_page_160 rfl (lv_at hl 0 rfl) ?_
      refine lv_lconst (v := 0) hx hb d_MD_page_161 rfl ?_
      refine pz_lge (tgt := 173) hx hb d_MD_page_162 d_MD_page_163 (by decide) (fun c_20 => ?_) (fun c_20 => ?_)
      · refine lv_lconst (v := 0) hx hb d_MD_page_173 rfl ?_
        exact pz_lret hx hb hr hlocks hK hP hD hS (Nat.le_of_ble_eq_true rfl) (Nat.le_of_ble_eq_true rfl) ⟨M1, rfl, (g6.trans ((if_neg (k_nlt c_19)).trans (if_neg (k_nlt c_20)))).symm, hR1, hth1⟩ d_MD_page_174
      · refine lv_aload_n hx hb d_MD_page_166 rfl (lv_at hl 1 rfl) ?_
        refine pz_get (ci := 10) (C := "PageMakerModel") (T := T_MD) (N := 26) hx hb htb in_MD hown hK hP (lm_in (by decide)) h_7 rfl 25 (by decide) (htb _ tw_707) (fun _ h9 => h9) rfl d_MD_page_167 ?_
        refine lv_goto (tgt := 174) hx hb d_MD_page_170 (by decide) ?_
        exact pz_lret hx hb hr hlocks hK hP hD hS (Nat.le_of_ble_eq_true rfl) (Nat.le_of_ble_eq_true rfl) ⟨M1, rfl, (htm.2.2.1.trans (g6.trans ((if_neg (k_nlt c_19)).trans (if_pos c_20))).symm), hR1, hth1⟩ d_MD_page_174
    · refine lv_aload_n hx hb d_MD_page_147 rfl (lv_at hl 1 rfl) ?_
      refine pz_get (ci := 10) (C := "PageMakerModel") (T := T_MD) (N := 26) hx hb htb in_MD hown hK hP (lm_in (by decide)) h_7 rfl 24 (by decide) (htb _ tw_706) (fun _ h9 => h9) rfl d_MD_page_148 ?_
      refine lv_aload_n hx hb d_MD_page_151 rfl (lv_at hl 1 rfl) ?_
      refine lv_lload_n hx hb d_MD_page_152 rfl (lv_at hl 0 rfl) ?_
      refine vp_callSi (va_Run.run (va_runV (As := [.long ex]) (rest := [.ref (A 13)]) ⟨hx, hb, hml, hown, hts⟩ (c_MD_orderOf l G A hA9 M1 _ ex) (cwV 1 hts (tb_V tw_860 tw_862 tp_24 tw_8 tw_863) rfl rfl rfl (by decide +kernel) ⟨(Nat.le_of_ble_eq_true rfl), (Nat.le_of_ble_eq_true rfl)⟩) (pz_preV (zz_ok _ _ _) hK hP hD hS hA hz (ci := 10) rfl rfl (lm_in (by decide)) h_7) rfl rfl hl.1 rfl (lv_room (Nat.le_of_ble_eq_true rfl)) d_MD_page_153 ⟨(Nat.le_of_ble_eq_true rfl), (Nat.le_of_ble_eq_true rfl)⟩)) (fun r21 hw => ?_)
      have hw : r21 = (k_ord M1.g ex) := hw
      subst r21
      have h_22 : mF G A M1 (A 13) = .inl (cJ G, 4, .inr (.inl M1.g)) := mf_at hA9 M1 13 (by decide)
      have hin23 : vp_in (k_ord M1.g ex) 4 := vp_ord _ _
      refine pz_lald hx hb hK hP 1 (lm_in (by decide)) h_22 rfl hin23 d_MD_page_156 ?_
      refine lv_goto (tgt := 174) hx hb d_MD_page_157 (by decide) ?_
      exact pz_lret hx hb hr hlocks hK hP hD hS (Nat.le_of_ble_eq_true rfl) (Nat.le_of_ble_eq_true rfl) ⟨M1, rfl, (tot_tm htm c_19).trans g6.symm, hR1, hth1⟩ d_MD_page_174
  · refine lv_tableIn (x := 6) (tgt := 175) hx hb d_MD_page_65 (by decide) (by decide) rfl (by decide) ?_
    refine lv_aload_n hx hb d_MD_page_175 rfl (lv_at hl 1 rfl) ?_
    refine lv_iload_n hx hb d_MD_page_176 rfl (lv_at hl 2 rfl) ?_
    have hnn : NN M1 := nn_of htm (n := b - a) (by have h9 := tn_list (F := pg.1) (a := a) hJ.1 hn5 (b - a) (by omega); rw [show a + (b - a) = b by omega] at h9; exact h9) (by omega)
    refine vp_callSi (va_Run.run (va_runV (As := [.int (nI k)]) (rest := []) ⟨hx, hb, hml, hown, hts⟩ (c_MD_badness l G A hA9 M1 _ k pg.1.1 (by omega) ((r1 6 k).trans m6) hnn) (cwV 1 hts (tb_V tw_813 tw_815 tp_21 tw_8 tw_816) rfl rfl rfl (by decide +kernel) ⟨(Nat.le_of_ble_eq_true rfl), (Nat.le_of_ble_eq_true rfl)⟩) (pz_preV (zz_ok _ _ _) hK hP hD hS hA hz (ci := 10) rfl rfl (lm_in (by decide)) h_7) rfl rfl hl.1 rfl (lv_room (Nat.le_of_ble_eq_true rfl)) d_MD_page_177 ⟨(Nat.le_of_ble_eq_true rfl), (Nat.le_of_ble_eq_true rfl)⟩)) (fun r24 hw => ?_)
    have hw : r24 = (k_boe M1.g M1.sh (pg.1.1.toInt64 - M1.ln)) := hw
    subst r24
    refine lv_i2l hx hb d_MD_page_180 rfl ?_
    exact pz_lret hx hb hr hlocks hK hP hD hS (Nat.le_of_ble_eq_true rfl) (Nat.le_of_ble_eq_true rfl) ⟨M1, rfl, (congrArg Int32.toInt64 ((ob_tm htm).trans g3.symm)), hR1, hth1⟩ d_MD_page_181
  · refine lv_tableOut (tgt := 182) hx hb d_MD_page_65 (Or.inr (by decide)) (by decide) ?_
    refine lv_aload_n hx hb d_MD_page_182 rfl (lv_at hl 1 rfl) ?_
    refine pz_get (ci := 10) (C := "PageMakerModel") (T := T_MD) (N := 26) hx hb htb in_MD hown hK hP (lm_in (by decide)) h_7 rfl 16 (by decide) (htb _ tw_698) (fun _ h9 => h9) rfl d_MD_page_183 ?_
    refine lv_iload_n hx hb d_MD_page_186 rfl (lv_at hl 2 rfl) ?_
    have h_25 : mF G A M1 (A 12) = .inl (cI G, 2001, .inl M1.en) := mf_at hA9 M1 12 (by decide)
    refine pz_iald (j := k) hx hb hK hP 0 (lm_in (by decide)) h_25 rfl (by omega) (by decide) d_MD_page_187 ?_
    refine lv_topi (fun x26 ex26 => ?_)
    have ex26 : x26 = pg.2.2.2.2.2.1 := ex26.trans (((r1 12 k).trans m12))
    subst ex26
    refine lv_i2l hx hb d_MD_page_188 rfl ?_
    exact pz_lret hx hb hr hlocks hK hP hD hS (Nat.le_of_ble_eq_true rfl) (Nat.le_of_ble_eq_true rfl) ⟨M1, rfl, rfl, hR1, hth1⟩ d_MD_page_189
set_option maxHeartbeats 4000000 in
set_option maxRecDepth 100000 in
/-- model: page, wrong -/
theorem x_MD_page (l : Launch) (G : gG) (A : Nat → Nat) (hA9 : mJn A) (M : MS) (sz : Nat) (S : CS) (k n : Int32) (hJ : J S S.1.length) (hR : MR M S) (hno9 : ¬ ((0 ≤ k ∧ k < nI S.2.2.1.length) ∧ 0 ≤ n ∧ n < 8)) : mJ l y_MD_page w_MD_page ({ frames := 0, cells := 0, slots := 0, locals := 0 }) G (LM A) (mF G A M) sz [.ref (A 0), .int k, .int n] 0 0 (fun r u => r = 0 ∧ u = (LM A, mF G A (M.si 0 1))) := by
  refine pz_met (cc := prog_12_method_25_code) (maxL := 5) (ret := (some .long)) (by decide) rfl (Nat.le_of_ble_eq_true rfl) ?_
  intro p e s m below meth c ls hx hb hr hml hts hown hlocks hin hsz hK hP hD hS hA hz hl
  have htb : ∀ w ∈ TB, w.before _ s = true := fun w h => hts w (List.mem_cons_of_mem _ h)
  have hl : lv_has ls 5 [(0, .ref (A 0)), (1, .int k), (2, .int n)] := hl
  have q5 : M.pg = nI S.2.2.1.length := hR.1.2.2.2.2.1
  refine lv_aload_n hx hb d_MD_page_0 rfl (lv_at hl 0 rfl) ?_
  refine lv_iload_n hx hb d_MD_page_1 rfl (lv_at hl 1 rfl) ?_
  refine lv_if_lt (tgt := 23) hx hb d_MD_page_2 (by decide) (fun c_1 => ?_) (fun c_1 => ?_)
  · refine lv_iconst (v := 1) hx hb d_MD_page_23 (by decide) ?_
    refine lv_goto (tgt := 28) hx hb d_MD_page_24 (by decide) ?_
    have h_2 : mF G A M (A 0) = .inr (10, [.int M.th, .ref (A 1), .ref (A 2), .ref (A 3), .ref (A 4), .ref (A 5), .int M.ct, .int M.ht, .int M.tp, .int M.gr, .ref (A 6), .ref (A 7), .ref (A 8), .ref (A 9), .ref (A 10), .ref (A 11), .ref (A 12), .int M.pg, .int M.bg, .int M.io, .int M.be, .int M.le, .long M.ln, .long M.dp, .ref (A 13), .long M.sh]) := mf_at hA9 M 0 (by decide)
    refine pz_put (ci := 10) (v := .int 1) (ty := .int) (C := "PageMakerModel") (T := T_MD) (N := 26) hx hb htb in_MD ty_MD to_MD nm_MD hown hK hP hD hS (lm_in (by decide)) h_2 rfl 0 (by decide) (htb _ tw_682) (fun _ h9 => h9) rfl rfl rfl rfl (Nat.le_of_ble_eq_true rfl) d_MD_page_28 (fun f3 H locs ef3 hP hD hS => ?_)
    have ef3 : f3 = va_up (mF G A M) (A 0) (.inr (10, [.int 1, .ref (A 1), .ref (A 2), .ref (A 3), .ref (A 4), .ref (A 5), .int M.ct, .int M.ht, .int M.tp, .int M.gr, .ref (A 6), .ref (A 7), .ref (A 8), .ref (A 9), .ref (A 10), .ref (A 11), .ref (A 12), .int M.pg, .int M.bg, .int M.io, .int M.be, .int M.le, .long M.ln, .long M.dp, .ref (A 13), .long M.sh])) := ef3
    have ef3 : f3 = mF G A (M.si 0 1) := ef3.trans (mf_o hA9 (M1 := M.si 0 1) rfl rfl)
    subst ef3
    refine lv_aload_n hx hb d_MD_page_31 rfl (lv_at hl 0 rfl) ?_
    have h_4 : mF G A (M.si 0 1) (A 0) = .inr (10, [.int 1, .ref (A 1), .ref (A 2), .ref (A 3), .ref (A 4), .ref (A 5), .int M.ct, .int M.ht, .int M.tp, .int M.gr, .ref (A 6), .ref (A 7), .ref (A 8), .ref (A 9), .ref (A 10), .ref (A 11), .ref (A 12), .int M.pg, .int M.bg, .int M.io, .int M.be, .int M.le, .long M.ln, .long M.dp, .ref (A 13), .long M.sh]) := mf_at hA9 (M.si 0 1) 0 (by decide)
    refine pz_get (ci := 10) (C := "PageMakerModel") (T := T_MD) (N := 26) hx hb htb in_MD hown hK hP (lm_in (by decide)) h_4 rfl 0 (by decide) (htb _ tw_682) (fun _ h9 => h9) rfl d_MD_page_32 ?_
    refine lv_if_le (tgt := 40) hx hb d_MD_page_35 (by decide) (fun c0 => absurd c0 (by decide)) (fun _ => ?_)
    refine lv_lconst (v := 0) hx hb d_MD_page_38 rfl ?_
    exact pz_lret hx hb hr hlocks hK hP hD hS (Nat.le_of_ble_eq_true rfl) (Nat.le_of_ble_eq_true rfl) ⟨rfl, rfl⟩ d_MD_page_39
  · refine lv_iload_n hx hb d_MD_page_5 rfl (lv_at hl 1 rfl) ?_
    refine lv_aload_n hx hb d_MD_page_6 rfl (lv_at hl 0 rfl) ?_
    have h_5 : mF G A M (A 0) = .inr (10, [.int M.th, .ref (A 1), .ref (A 2), .ref (A 3), .ref (A 4), .ref (A 5), .int M.ct, .int M.ht, .int M.tp, .int M.gr, .ref (A 6), .ref (A 7), .ref (A 8), .ref (A 9), .ref (A 10), .ref (A 11), .ref (A 12), .int M.pg, .int M.bg, .int M.io, .int M.be, .int M.le, .long M.ln, .long M.dp, .ref (A 13), .long M.sh]) := mf_at hA9 M 0 (by decide)
    refine pz_get (ci := 10) (C := "PageMakerModel") (T := T_MD) (N := 26) hx hb htb in_MD hown hK hP (lm_in (by decide)) h_5 rfl 17 (by decide) (htb _ tw_699) (fun _ h9 => h9) rfl d_MD_page_7 ?_
    refine lv_topi (fun x6 ex6 => ?_)
    have ex6 : x6 = nI S.2.2.1.length := ex6.trans (q5)
    subst ex6
    refine lv_icmp_ge (tgt := 23) hx hb d_MD_page_10 (by decide) (fun c_7 => ?_) (fun c_7 => ?_)
    · refine lv_iconst (v := 1) hx hb d_MD_page_23 (by decide) ?_
      refine lv_goto (tgt := 28) hx hb d_MD_page_24 (by decide) ?_
      refine pz_put (ci := 10) (v := .int 1) (ty := .int) (C := "PageMakerModel") (T := T_MD) (N := 26) hx hb htb in_MD ty_MD to_MD nm_MD hown hK hP hD hS (lm_in (by decide)) h_5 rfl 0 (by decide) (htb _ tw_682) (fun _ h9 => h9) rfl rfl rfl rfl (Nat.le_of_ble_eq_true rfl) d_MD_page_28 (fun f8 H locs ef8 hP hD hS => ?_)
      have ef8 : f8 = va_up (mF G A M) (A 0) (.inr (10, [.int 1, .ref (A 1), .ref (A 2), .ref (A 3), .ref (A 4), .ref (A 5), .int M.ct, .int M.ht, .int M.tp, .int M.gr, .ref (A 6), .ref (A 7), .ref (A 8), .ref (A 9), .ref (A 10), .ref (A 11), .ref (A 12), .int M.pg, .int M.bg, .int M.io, .int M.be, .int M.le, .long M.ln, .long M.dp, .ref (A 13), .long M.sh])) := ef8
      have ef8 : f8 = mF G A (M.si 0 1) := ef8.trans (mf_o hA9 (M1 := M.si 0 1) rfl rfl)
      subst ef8
      refine lv_aload_n hx hb d_MD_page_31 rfl (lv_at hl 0 rfl) ?_
      have h_9 : mF G A (M.si 0 1) (A 0) = .inr (10, [.int 1, .ref (A 1), .ref (A 2), .ref (A 3), .ref (A 4), .ref (A 5), .int M.ct, .int M.ht, .int M.tp, .int M.gr, .ref (A 6), .ref (A 7), .ref (A 8), .ref (A 9), .ref (A 10), .ref (A 11), .ref (A 12), .int M.pg, .int M.bg, .int M.io, .int M.be, .int M.le, .long M.ln, .long M.dp, .ref (A 13), .long M.sh]) := mf_at hA9 (M.si 0 1) 0 (by decide)
      refine pz_get (ci := 10) (C := "PageMakerModel") (T := T_MD) (N := 26) hx hb htb in_MD hown hK hP (lm_in (by decide)) h_9 rfl 0 (by decide) (htb _ tw_682) (fun _ h9 => h9) rfl d_MD_page_32 ?_
      refine lv_if_le (tgt := 40) hx hb d_MD_page_35 (by decide) (fun c0 => absurd c0 (by decide)) (fun _ => ?_)
      refine lv_lconst (v := 0) hx hb d_MD_page_38 rfl ?_
      exact pz_lret hx hb hr hlocks hK hP hD hS (Nat.le_of_ble_eq_true rfl) (Nat.le_of_ble_eq_true rfl) ⟨rfl, rfl⟩ d_MD_page_39
    · refine lv_iload_n hx hb d_MD_page_13 rfl (lv_at hl 2 rfl) ?_
      refine lv_if_lt (tgt := 23) hx hb d_MD_page_14 (by decide) (fun c_10 => ?_) (fun c_10 => ?_)
      · refine lv_iconst (v := 1) hx hb d_MD_page_23 (by decide) ?_
        refine lv_goto (tgt := 28) hx hb d_MD_page_24 (by decide) ?_
        refine pz_put (ci := 10) (v := .int 1) (ty := .int) (C := "PageMakerModel") (T := T_MD) (N := 26) hx hb htb in_MD ty_MD to_MD nm_MD hown hK hP hD hS (lm_in (by decide)) h_5 rfl 0 (by decide) (htb _ tw_682) (fun _ h9 => h9) rfl rfl rfl rfl (Nat.le_of_ble_eq_true rfl) d_MD_page_28 (fun f11 H locs ef11 hP hD hS => ?_)
        have ef11 : f11 = va_up (mF G A M) (A 0) (.inr (10, [.int 1, .ref (A 1), .ref (A 2), .ref (A 3), .ref (A 4), .ref (A 5), .int M.ct, .int M.ht, .int M.tp, .int M.gr, .ref (A 6), .ref (A 7), .ref (A 8), .ref (A 9), .ref (A 10), .ref (A 11), .ref (A 12), .int M.pg, .int M.bg, .int M.io, .int M.be, .int M.le, .long M.ln, .long M.dp, .ref (A 13), .long M.sh])) := ef11
        have ef11 : f11 = mF G A (M.si 0 1) := ef11.trans (mf_o hA9 (M1 := M.si 0 1) rfl rfl)
        subst ef11
        refine lv_aload_n hx hb d_MD_page_31 rfl (lv_at hl 0 rfl) ?_
        have h_12 : mF G A (M.si 0 1) (A 0) = .inr (10, [.int 1, .ref (A 1), .ref (A 2), .ref (A 3), .ref (A 4), .ref (A 5), .int M.ct, .int M.ht, .int M.tp, .int M.gr, .ref (A 6), .ref (A 7), .ref (A 8), .ref (A 9), .ref (A 10), .ref (A 11), .ref (A 12), .int M.pg, .int M.bg, .int M.io, .int M.be, .int M.le, .long M.ln, .long M.dp, .ref (A 13), .long M.sh]) := mf_at hA9 (M.si 0 1) 0 (by decide)
        refine pz_get (ci := 10) (C := "PageMakerModel") (T := T_MD) (N := 26) hx hb htb in_MD hown hK hP (lm_in (by decide)) h_12 rfl 0 (by decide) (htb _ tw_682) (fun _ h9 => h9) rfl d_MD_page_32 ?_
        refine lv_if_le (tgt := 40) hx hb d_MD_page_35 (by decide) (fun c0 => absurd c0 (by decide)) (fun _ => ?_)
        refine lv_lconst (v := 0) hx hb d_MD_page_38 rfl ?_
        exact pz_lret hx hb hr hlocks hK hP hD hS (Nat.le_of_ble_eq_true rfl) (Nat.le_of_ble_eq_true rfl) ⟨rfl, rfl⟩ d_MD_page_39
      · refine lv_iload_n hx hb d_MD_page_17 rfl (lv_at hl 2 rfl) ?_
        refine lv_bipush (v := 7) hx hb d_MD_page_18 (by decide) ?_
        refine lv_icmp_le (tgt := 27) hx hb d_MD_page_20 (by decide) (fun c_13 => ?_) (fun c_13 => ?_)
        · exact absurd ⟨⟨i32_le c_1, i32_lt c_7⟩, i32_le c_10, i32_lt8 c_13⟩ hno9
        · refine lv_iconst (v := 1) hx hb d_MD_page_23 (by decide) ?_
          refine lv_goto (tgt := 28) hx hb d_MD_page_24 (by decide) ?_
          refine pz_put (ci := 10) (v := .int 1) (ty := .int) (C := "PageMakerModel") (T := T_MD) (N := 26) hx hb htb in_MD ty_MD to_MD nm_MD hown hK hP hD hS (lm_in (by decide)) h_5 rfl 0 (by decide) (htb _ tw_682) (fun _ h9 => h9) rfl rfl rfl rfl (Nat.le_of_ble_eq_true rfl) d_MD_page_28 (fun f14 H locs ef14 hP hD hS => ?_)
          have ef14 : f14 = va_up (mF G A M) (A 0) (.inr (10, [.int 1, .ref (A 1), .ref (A 2), .ref (A 3), .ref (A 4), .ref (A 5), .int M.ct, .int M.ht, .int M.tp, .int M.gr, .ref (A 6), .ref (A 7), .ref (A 8), .ref (A 9), .ref (A 10), .ref (A 11), .ref (A 12), .int M.pg, .int M.bg, .int M.io, .int M.be, .int M.le, .long M.ln, .long M.dp, .ref (A 13), .long M.sh])) := ef14
          have ef14 : f14 = mF G A (M.si 0 1) := ef14.trans (mf_o hA9 (M1 := M.si 0 1) rfl rfl)
          subst ef14
          refine lv_aload_n hx hb d_MD_page_31 rfl (lv_at hl 0 rfl) ?_
          have h_15 : mF G A (M.si 0 1) (A 0) = .inr (10, [.int 1, .ref (A 1), .ref (A 2), .ref (A 3), .ref (A 4), .ref (A 5), .int M.ct, .int M.ht, .int M.tp, .int M.gr, .ref (A 6), .ref (A 7), .ref (A 8), .ref (A 9), .ref (A 10), .ref (A 11), .ref (A 12), .int M.pg, .int M.bg, .int M.io, .int M.be, .int M.le, .long M.ln, .long M.dp, .ref (A 13), .long M.sh]) := mf_at hA9 (M.si 0 1) 0 (by decide)
          refine pz_get (ci := 10) (C := "PageMakerModel") (T := T_MD) (N := 26) hx hb htb in_MD hown hK hP (lm_in (by decide)) h_15 rfl 0 (by decide) (htb _ tw_682) (fun _ h9 => h9) rfl d_MD_page_32 ?_
          refine lv_if_le (tgt := 40) hx hb d_MD_page_35 (by decide) (fun c0 => absurd c0 (by decide)) (fun _ => ?_)
          refine lv_lconst (v := 0) hx hb d_MD_page_38 rfl ?_
          exact pz_lret hx hb hr hlocks hK hP hD hS (Nat.le_of_ble_eq_true rfl) (Nat.le_of_ble_eq_true rfl) ⟨rfl, rfl⟩ d_MD_page_39
set_option maxHeartbeats 4000000 in
set_option maxRecDepth 100000 in
/-- model: open(n) -/
theorem c_MD_open (l : Launch) (G : gG) (A : Nat → Nat) (hA9 : mJn A) (M : MS) (sz : Nat) (S : CS) (n : Nat) (hJ : J S S.1.length) (hR : MR M S) (hn : n < 10) : mJ l y_MD_open w_MD_open ({ frames := 2, cells := 0, slots := 0, locals := 45 }) G (LM A) (mF G A M) sz [.ref (A 0), .int (nI n)] 0 0 (fun r u => ∃ M1, u = (LM A, mF G A M1) ∧ r = op_v S.2.2.2.2.1 S.2.2.2.2.2 n ∧ MR M1 S ∧ M1.th = 0) := by
  refine pz_met (cc := prog_12_method_29_code) (maxL := 2) (ret := (some .long)) (by decide) rfl (Nat.le_of_ble_eq_true rfl) ?_
  intro p e s m below meth c ls hx hb hr hml hts hown hlocks hin hsz hK hP hD hS hA hz hl
  have htb : ∀ w ∈ TB, w.before _ s = true := fun w h => hts w (List.mem_cons_of_mem _ h)
  have hl : lv_has ls 2 [(0, .ref (A 0)), (1, .int (nI n))] := hl
  have hn5 : S.1.length ≤ 512 := hJ.2.1
  have hp5 : S.2.2.1.length ≤ 512 := j_pgs hJ
  have q5 : M.pg = nI S.2.2.1.length := hR.1.2.2.2.2.1
  have q1 : M.ct = nI S.1.length := hR.1.1.1
  refine lv_aload_n hx hb d_MD_open_0 rfl (lv_at hl 0 rfl) ?_
  refine lv_iload_n hx hb d_MD_open_1 rfl (lv_at hl 1 rfl) ?_
  refine lv_if_lt (tgt := 11) hx hb d_MD_open_2 (by decide) (fun c0 => absurd c0 (nI_pos (by omega))) (fun _ => ?_)
  refine lv_iload_n hx hb d_MD_open_5 rfl (lv_at hl 1 rfl) ?_
  refine lv_bipush (v := 9) hx hb d_MD_open_6 (by decide) ?_
  refine lv_icmp_le (tgt := 15) hx hb d_MD_open_8 (by decide) (fun _ => ?_) (fun c0 => absurd (nI_le (b := 9) (by omega) (by omega)) c0)
  refine lv_iconst (v := 0) hx hb d_MD_open_15 (by decide) ?_
  have h_1 : mF G A M (A 0) = .inr (10, [.int M.th, .ref (A 1), .ref (A 2), .ref (A 3), .ref (A 4), .ref (A 5), .int M.ct, .int M.ht, .int M.tp, .int M.gr, .ref (A 6), .ref (A 7), .ref (A 8), .ref (A 9), .ref (A 10), .ref (A 11), .ref (A 12), .int M.pg, .int M.bg, .int M.io, .int M.be, .int M.le, .long M.ln, .long M.dp, .ref (A 13), .long M.sh]) := mf_at hA9 M 0 (by decide)
  refine pz_put (ci := 10) (v := .int 0) (ty := .int) (C := "PageMakerModel") (T := T_MD) (N := 26) hx hb htb in_MD ty_MD to_MD nm_MD hown hK hP hD hS (lm_in (by decide)) h_1 rfl 0 (by decide) (htb _ tw_682) (fun _ h9 => h9) rfl rfl rfl rfl (Nat.le_of_ble_eq_true rfl) d_MD_open_16 (fun f2 H locs ef2 hP hD hS => ?_)
  have ef2 : f2 = va_up (mF G A M) (A 0) (.inr (10, [.int 0, .ref (A 1), .ref (A 2), .ref (A 3), .ref (A 4), .ref (A 5), .int M.ct, .int M.ht, .int M.tp, .int M.gr, .ref (A 6), .ref (A 7), .ref (A 8), .ref (A 9), .ref (A 10), .ref (A 11), .ref (A 12), .int M.pg, .int M.bg, .int M.io, .int M.be, .int M.le, .long M.ln, .long M.dp, .ref (A 13), .long M.sh])) := ef2
  have ef2 : f2 = mF G A (M.si 0 0) := ef2.trans (mf_o hA9 (M1 := M.si 0 0) rfl rfl)
  subst ef2
  refine lv_aload_n hx hb d_MD_open_19 rfl (lv_at hl 0 rfl) ?_
  have h_3 : mF G A (M.si 0 0) (A 0) = .inr (10, [.int 0, .ref (A 1), .ref (A 2), .ref (A 3), .ref (A 4), .ref (A 5), .int M.ct, .int M.ht, .int M.tp, .int M.gr, .ref (A 6), .ref (A 7), .ref (A 8), .ref (A 9), .ref (A 10), .ref (A 11), .ref (A 12), .int M.pg, .int M.bg, .int M.io, .int M.be, .int M.le, .long M.ln, .long M.dp, .ref (A 13), .long M.sh]) := mf_at hA9 (M.si 0 0) 0 (by decide)
  refine pz_get (ci := 10) (C := "PageMakerModel") (T := T_MD) (N := 26) hx hb htb in_MD hown hK hP (lm_in (by decide)) h_3 rfl 0 (by decide) (htb _ tw_682) (fun _ h9 => h9) rfl d_MD_open_20 ?_
  refine lv_if_le (tgt := 28) hx hb d_MD_open_23 (by decide) (fun _ => ?_) (fun c0 => absurd c0 (by decide))
  rcases id hR.2 with ⟨e1, e2, h7, h6⟩ | ⟨a, j, hl9, ⟨⟨b0, b1, hbx⟩, e1, e2, hno, hlo, hF⟩, h7, h6, hpr, h8, h9⟩
  · refine lv_aload_n hx hb d_MD_open_28 rfl (lv_at hl 0 rfl) ?_
    refine pz_get (ci := 10) (C := "PageMakerModel") (T := T_MD) (N := 26) hx hb htb in_MD hown hK hP (lm_in (by decide)) h_3 rfl 19 (by decide) (htb _ tw_701) (fun _ h9 => h9) rfl d_MD_open_29 ?_
    refine lv_topi (fun x4 ex4 => ?_)
    have ex4 : x4 = 0 := ex4.trans (h7)
    subst ex4
    refine lv_if_ne (tgt := 65) hx hb d_MD_open_32 (by decide) (fun c0 => absurd c0 (by decide)) (fun _ => ?_)
    rcases (show n = 0 ∨ n = 1 ∨ n = 2 ∨ n = 3 ∨ n = 4 ∨ n = 5 ∨ n = 6 ∨ n = 7 ∨ n = 8 ∨ n = 9 by omega) with rfl | rfl | rfl | rfl | rfl | rfl | rfl | rfl | rfl | rfl
    · have hl : lv_has ls 2 [(0, .ref (A 0)), (1, .int 0)] := hl
      refine lv_iload_n hx hb d_MD_open_35 rfl (lv_at hl 1 rfl) ?_
      refine lv_if_eq (tgt := 45) hx hb d_MD_open_36 (by decide) (fun _ => ?_) (fun c0 => absurd c0 (by decide))
      refine lv_ldc2 (v := (-1)) hx hb hown (htb _ tw_881) d_MD_open_45 ?_
      refine lv_goto (tgt := 64) hx hb d_MD_open_48 (by decide) ?_
      exact pz_lret hx hb hr hlocks hK hP hD hS (Nat.le_of_ble_eq_true rfl) (Nat.le_of_ble_eq_true rfl) ⟨M.si 0 0, rfl, (by rw [e1, e2]; rfl), mr_th hR, rfl⟩ d_MD_open_64
    · have hl : lv_has ls 2 [(0, .ref (A 0)), (1, .int 1)] := hl
      refine lv_iload_n hx hb d_MD_open_35 rfl (lv_at hl 1 rfl) ?_
      refine lv_if_eq (tgt := 45) hx hb d_MD_open_36 (by decide) (fun c0 => absurd c0 (by decide)) (fun _ => ?_)
      refine lv_iload_n hx hb d_MD_open_39 rfl (lv_at hl 1 rfl) ?_
      refine lv_bipush (v := 7) hx hb d_MD_open_40 (by decide) ?_
      refine lv_icmp_ne (tgt := 51) hx hb d_MD_open_42 (by decide) (fun _ => ?_) (fun c0 => absurd c0 (by decide))
      refine lv_iload_n hx hb d_MD_open_51 rfl (lv_at hl 1 rfl) ?_
      refine lv_bipush (v := 8) hx hb d_MD_open_52 (by decide) ?_
      refine lv_icmp_ne (tgt := 63) hx hb d_MD_open_54 (by decide) (fun _ => ?_) (fun c0 => absurd c0 (by decide))
      refine lv_lconst (v := 0) hx hb d_MD_open_63 rfl ?_
      exact pz_lret hx hb hr hlocks hK hP hD hS (Nat.le_of_ble_eq_true rfl) (Nat.le_of_ble_eq_true rfl) ⟨M.si 0 0, rfl, (by rw [e1, e2]; rfl), mr_th hR, rfl⟩ d_MD_open_64
    · have hl : lv_has ls 2 [(0, .ref (A 0)), (1, .int 2)] := hl
      refine lv_iload_n hx hb d_MD_open_35 rfl (lv_at hl 1 rfl) ?_
      refine lv_if_eq (tgt := 45) hx hb d_MD_open_36 (by decide) (fun c0 => absurd c0 (by decide)) (fun _ => ?_)
      refine lv_iload_n hx hb d_MD_open_39 rfl (lv_at hl 1 rfl) ?_
      refine lv_bipush (v := 7) hx hb d_MD_open_40 (by decide) ?_
      refine lv_icmp_ne (tgt := 51) hx hb d_MD_open_42 (by decide) (fun _ => ?_) (fun c0 => absurd c0 (by decide))
      refine lv_iload_n hx hb d_MD_open_51 rfl (lv_at hl 1 rfl) ?_
      refine lv_bipush (v := 8) hx hb d_MD_open_52 (by decide) ?_
      refine lv_icmp_ne (tgt := 63) hx hb d_MD_open_54 (by decide) (fun _ => ?_) (fun c0 => absurd c0 (by decide))
      refine lv_lconst (v := 0) hx hb d_MD_open_63 rfl ?_
      exact pz_lret hx hb hr hlocks hK hP hD hS (Nat.le_of_ble_eq_true rfl) (Nat.le_of_ble_eq_true rfl) ⟨M.si 0 0, rfl, (by rw [e1, e2]; rfl), mr_th hR, rfl⟩ d_MD_open_64
    · have hl : lv_has ls 2 [(0, .ref (A 0)), (1, .int 3)] := hl
      refine lv_iload_n hx hb d_MD_open_35 rfl (lv_at hl 1 rfl) ?_
      refine lv_if_eq (tgt := 45) hx hb d_MD_open_36 (by decide) (fun c0 => absurd c0 (by decide)) (fun _ => ?_)
      refine lv_iload_n hx hb d_MD_open_39 rfl (lv_at hl 1 rfl) ?_
      refine lv_bipush (v := 7) hx hb d_MD_open_40 (by decide) ?_
      refine lv_icmp_ne (tgt := 51) hx hb d_MD_open_42 (by decide) (fun _ => ?_) (fun c0 => absurd c0 (by decide))
      refine lv_iload_n hx hb d_MD_open_51 rfl (lv_at hl 1 rfl) ?_
      refine lv_bipush (v := 8) hx hb d_MD_open_52 (by decide) ?_
      refine lv_icmp_ne (tgt := 63) hx hb d_MD_open_54 (by decide) (fun _ => ?_) (fun c0 => absurd c0 (by decide))
      refine lv_lconst (v := 0) hx hb d_MD_open_63 rfl ?_
      exact pz_lret hx hb hr hlocks hK hP hD hS (Nat.le_of_ble_eq_true rfl) (Nat.le_of_ble_eq_true rfl) ⟨M.si 0 0, rfl, (by rw [e1, e2]; rfl), mr_th hR, rfl⟩ d_MD_open_64
    · have hl : lv_has ls 2 [(0, .ref (A 0)), (1, .int 4)] := hl
      refine lv_iload_n hx hb d_MD_open_35 rfl (lv_at hl 1 rfl) ?_
      refine lv_if_eq (tgt := 45) hx hb d_MD_open_36 (by decide) (fun c0 => absurd c0 (by decide)) (fun _ => ?_)
      refine lv_iload_n hx hb d_MD_open_39 rfl (lv_at hl 1 rfl) ?_
      refine lv_bipush (v := 7) hx hb d_MD_open_40 (by decide) ?_
      refine lv_icmp_ne (tgt := 51) hx hb d_MD_open_42 (by decide) (fun _ => ?_) (fun c0 => absurd c0 (by decide))
      refine lv_iload_n hx hb d_MD_open_51 rfl (lv_at hl 1 rfl) ?_
      refine lv_bipush (v := 8) hx hb d_MD_open_52 (by decide) ?_
      refine lv_icmp_ne (tgt := 63) hx hb d_MD_open_54 (by decide) (fun _ => ?_) (fun c0 => absurd c0 (by decide))
      refine lv_lconst (v := 0) hx hb d_MD_open_63 rfl ?_
      exact pz_lret hx hb hr hlocks hK hP hD hS (Nat.le_of_ble_eq_true rfl) (Nat.le_of_ble_eq_true rfl) ⟨M.si 0 0, rfl, (by rw [e1, e2]; rfl), mr_th hR, rfl⟩ d_MD_open_64
    · have hl : lv_has ls 2 [(0, .ref (A 0)), (1, .int 5)] := hl
      refine lv_iload_n hx hb d_MD_open_35 rfl (lv_at hl 1 rfl) ?_
      refine lv_if_eq (tgt := 45) hx hb d_MD_open_36 (by decide) (fun c0 => absurd c0 (by decide)) (fun _ => ?_)
      refine lv_iload_n hx hb d_MD_open_39 rfl (lv_at hl 1 rfl) ?_
      refine lv_bipush (v := 7) hx hb d_MD_open_40 (by decide) ?_
      refine lv_icmp_ne (tgt := 51) hx hb d_MD_open_42 (by decide) (fun _ => ?_) (fun c0 => absurd c0 (by decide))
      refine lv_iload_n hx hb d_MD_open_51 rfl (lv_at hl 1 rfl) ?_
      refine lv_bipush (v := 8) hx hb d_MD_open_52 (by decide) ?_
      refine lv_icmp_ne (tgt := 63) hx hb d_MD_open_54 (by decide) (fun _ => ?_) (fun c0 => absurd c0 (by decide))
      refine lv_lconst (v := 0) hx hb d_MD_open_63 rfl ?_
      exact pz_lret hx hb hr hlocks hK hP hD hS (Nat.le_of_ble_eq_true rfl) (Nat.le_of_ble_eq_true rfl) ⟨M.si 0 0, rfl, (by rw [e1, e2]; rfl), mr_th hR, rfl⟩ d_MD_open_64
    · have hl : lv_has ls 2 [(0, .ref (A 0)), (1, .int 6)] := hl
      refine lv_iload_n hx hb d_MD_open_35 rfl (lv_at hl 1 rfl) ?_
      refine lv_if_eq (tgt := 45) hx hb d_MD_open_36 (by decide) (fun c0 => absurd c0 (by decide)) (fun _ => ?_)
      refine lv_iload_n hx hb d_MD_open_39 rfl (lv_at hl 1 rfl) ?_
      refine lv_bipush (v := 7) hx hb d_MD_open_40 (by decide) ?_
      refine lv_icmp_ne (tgt := 51) hx hb d_MD_open_42 (by decide) (fun _ => ?_) (fun c0 => absurd c0 (by decide))
      refine lv_iload_n hx hb d_MD_open_51 rfl (lv_at hl 1 rfl) ?_
      refine lv_bipush (v := 8) hx hb d_MD_open_52 (by decide) ?_
      refine lv_icmp_ne (tgt := 63) hx hb d_MD_open_54 (by decide) (fun _ => ?_) (fun c0 => absurd c0 (by decide))
      refine lv_lconst (v := 0) hx hb d_MD_open_63 rfl ?_
      exact pz_lret hx hb hr hlocks hK hP hD hS (Nat.le_of_ble_eq_true rfl) (Nat.le_of_ble_eq_true rfl) ⟨M.si 0 0, rfl, (by rw [e1, e2]; rfl), mr_th hR, rfl⟩ d_MD_open_64
    · have hl : lv_has ls 2 [(0, .ref (A 0)), (1, .int 7)] := hl
      refine lv_iload_n hx hb d_MD_open_35 rfl (lv_at hl 1 rfl) ?_
      refine lv_if_eq (tgt := 45) hx hb d_MD_open_36 (by decide) (fun c0 => absurd c0 (by decide)) (fun _ => ?_)
      refine lv_iload_n hx hb d_MD_open_39 rfl (lv_at hl 1 rfl) ?_
      refine lv_bipush (v := 7) hx hb d_MD_open_40 (by decide) ?_
      refine lv_icmp_ne (tgt := 51) hx hb d_MD_open_42 (by decide) (fun c0 => absurd c0 (by decide)) (fun _ => ?_)
      refine lv_ldc2 (v := (-1)) hx hb hown (htb _ tw_881) d_MD_open_45 ?_
      refine lv_goto (tgt := 64) hx hb d_MD_open_48 (by decide) ?_
      exact pz_lret hx hb hr hlocks hK hP hD hS (Nat.le_of_ble_eq_true rfl) (Nat.le_of_ble_eq_true rfl) ⟨M.si 0 0, rfl, (by rw [e1, e2]; rfl), mr_th hR, rfl⟩ d_MD_open_64
    · have hl : lv_has ls 2 [(0, .ref (A 0)), (1, .int 8)] := hl
      refine lv_iload_n hx hb d_MD_open_35 rfl (lv_at hl 1 rfl) ?_
      refine lv_if_eq (tgt := 45) hx hb d_MD_open_36 (by decide) (fun c0 => absurd c0 (by decide)) (fun _ => ?_)
      refine lv_iload_n hx hb d_MD_open_39 rfl (lv_at hl 1 rfl) ?_
      refine lv_bipush (v := 7) hx hb d_MD_open_40 (by decide) ?_
      refine lv_icmp_ne (tgt := 51) hx hb d_MD_open_42 (by decide) (fun _ => ?_) (fun c0 => absurd c0 (by decide))
      refine lv_iload_n hx hb d_MD_open_51 rfl (lv_at hl 1 rfl) ?_
      refine lv_bipush (v := 8) hx hb d_MD_open_52 (by decide) ?_
      refine lv_icmp_ne (tgt := 63) hx hb d_MD_open_54 (by decide) (fun c0 => absurd c0 (by decide)) (fun _ => ?_)
      refine lv_ldc2 (v := 1073741823) hx hb hown (htb _ tw_882) d_MD_open_57 ?_
      refine lv_goto (tgt := 64) hx hb d_MD_open_60 (by decide) ?_
      exact pz_lret hx hb hr hlocks hK hP hD hS (Nat.le_of_ble_eq_true rfl) (Nat.le_of_ble_eq_true rfl) ⟨M.si 0 0, rfl, (by rw [e1, e2]; rfl), mr_th hR, rfl⟩ d_MD_open_64
    · have hl : lv_has ls 2 [(0, .ref (A 0)), (1, .int 9)] := hl
      refine lv_iload_n hx hb d_MD_open_35 rfl (lv_at hl 1 rfl) ?_
      refine lv_if_eq (tgt := 45) hx hb d_MD_open_36 (by decide) (fun c0 => absurd c0 (by decide)) (fun _ => ?_)
      refine lv_iload_n hx hb d_MD_open_39 rfl (lv_at hl 1 rfl) ?_
      refine lv_bipush (v := 7) hx hb d_MD_open_40 (by decide) ?_
      refine lv_icmp_ne (tgt := 51) hx hb d_MD_open_42 (by decide) (fun _ => ?_) (fun c0 => absurd c0 (by decide))
      refine lv_iload_n hx hb d_MD_open_51 rfl (lv_at hl 1 rfl) ?_
      refine lv_bipush (v := 8) hx hb d_MD_open_52 (by decide) ?_
      refine lv_icmp_ne (tgt := 63) hx hb d_MD_open_54 (by decide) (fun _ => ?_) (fun c0 => absurd c0 (by decide))
      refine lv_lconst (v := 0) hx hb d_MD_open_63 rfl ?_
      exact pz_lret hx hb hr hlocks hK hP hD hS (Nat.le_of_ble_eq_true rfl) (Nat.le_of_ble_eq_true rfl) ⟨M.si 0 0, rfl, (by rw [e1, e2]; rfl), mr_th hR, rfl⟩ d_MD_open_64
  · refine lv_aload_n hx hb d_MD_open_28 rfl (lv_at hl 0 rfl) ?_
    refine pz_get (ci := 10) (C := "PageMakerModel") (T := T_MD) (N := 26) hx hb htb in_MD hown hK hP (lm_in (by decide)) h_3 rfl 19 (by decide) (htb _ tw_701) (fun _ h9 => h9) rfl d_MD_open_29 ?_
    refine lv_topi (fun x5 ex5 => ?_)
    have ex5 : x5 = 1 := ex5.trans (h7)
    subst ex5
    refine lv_if_ne (tgt := 65) hx hb d_MD_open_32 (by decide) (fun _ => ?_) (fun c0 => absurd c0 (by decide))
    refine lv_aload_n hx hb d_MD_open_65 rfl (lv_at hl 0 rfl) ?_
    refine lv_aload_n hx hb d_MD_open_66 rfl (lv_at hl 0 rfl) ?_
    refine pz_get (ci := 10) (C := "PageMakerModel") (T := T_MD) (N := 26) hx hb htb in_MD hown hK hP (lm_in (by decide)) h_3 rfl 17 (by decide) (htb _ tw_699) (fun _ h9 => h9) rfl d_MD_open_67 ?_
    refine lv_topi (fun x6 ex6 => ?_)
    have ex6 : x6 = nI S.2.2.1.length := ex6.trans (q5)
    subst ex6
    refine lv_aload_n hx hb d_MD_open_70 rfl (lv_at hl 0 rfl) ?_
    refine pz_get (ci := 10) (C := "PageMakerModel") (T := T_MD) (N := 26) hx hb htb in_MD hown hK hP (lm_in (by decide)) h_3 rfl 6 (by decide) (htb _ tw_688) (fun _ h9 => h9) rfl d_MD_open_71 ?_
    refine lv_topi (fun x7 ex7 => ?_)
    have ex7 : x7 = nI S.1.length := ex7.trans (q1)
    subst ex7
    refine pz_cv (va_runV (As := [.int (nI S.2.2.1.length), .int (nI S.1.length)]) (rest := []) ⟨hx, hb, hml, hown, hts⟩ (c_MD_addUpTo l G A hA9 (M.si 0 0) _ S.1 S.2.2.2.1 S.2.2.1.length a S.1.length b0 b1 (by omega) hR.1.1 hpr hbx (by omega) (Nat.le_refl _)) (cwV 2 hts (tb_V tw_856 tw_858 tp_23 tw_8 tw_859) rfl rfl rfl (by decide +kernel) ⟨(Nat.le_of_ble_eq_true rfl), (Nat.le_of_ble_eq_true rfl)⟩) (pz_preV (zz_ok _ _ _) hK hP hD hS hA hz (ci := 10) rfl rfl (lm_in (by decide)) h_3) rfl rfl hl.1 rfl (lv_room (Nat.le_of_ble_eq_true rfl)) d_MD_open_74 ⟨(Nat.le_of_ble_eq_true rfl), (Nat.le_of_ble_eq_true rfl)⟩) hP hD hS hA (fun L8 f8 H locs hw hP hD hS => ?_)
    obtain ⟨M1, hu, hmk, htm⟩ := hw
    have eL8 : L8 = LM A := (Prod.mk.inj hu).1
    have ef8 : f8 = mF G A M1 := (Prod.mk.inj hu).2
    subst eL8
    subst ef8
    have htm : TM M1 S.2.2.2.2.2 := by rw [e2, ← hl9]; exact htm
    have hR1 : MR M1 S := mr_ir hmk.1 hmk.2 (mr_th hR)
    have hth1 : M1.th = 0 := congrFun hmk.1 0
    have i8 : M1.be = S.2.2.2.2.1.2.2.1 := (congrFun hmk.1 8).trans h8
    have i9 : M1.le = S.2.2.2.2.1.2.2.2.1 := (congrFun hmk.1 9).trans h9
    have i6 : M1.bg = S.2.2.2.2.1.1 := (congrFun hmk.1 6).trans (h6.trans (by rw [e1, sP_1]))
    refine lv_iload_n hx hb d_MD_open_77 rfl (lv_at hl 1 rfl) ?_
    rcases (show n = 0 ∨ n = 1 ∨ n = 2 ∨ n = 3 ∨ n = 4 ∨ n = 5 ∨ n = 6 ∨ n = 7 ∨ n = 8 ∨ n = 9 by omega) with rfl | rfl | rfl | rfl | rfl | rfl | rfl | rfl | rfl | rfl
    · have hl : lv_has ls 2 [(0, .ref (A 0)), (1, .int 0)] := hl
      refine lv_tableIn (x := 0) (tgt := 132) hx hb d_MD_open_78 (by decide) (by decide) rfl (by decide) ?_
      refine lv_aload_n hx hb d_MD_open_132 rfl (lv_at hl 0 rfl) ?_
      have h_8 : mF G A M1 (A 0) = .inr (10, [.int M1.th, .ref (A 1), .ref (A 2), .ref (A 3), .ref (A 4), .ref (A 5), .int M1.ct, .int M1.ht, .int M1.tp, .int M1.gr, .ref (A 6), .ref (A 7), .ref (A 8), .ref (A 9), .ref (A 10), .ref (A 11), .ref (A 12), .int M1.pg, .int M1.bg, .int M1.io, .int M1.be, .int M1.le, .long M1.ln, .long M1.dp, .ref (A 13), .long M1.sh]) := mf_at hA9 M1 0 (by decide)
      refine pz_get (ci := 10) (C := "PageMakerModel") (T := T_MD) (N := 26) hx hb htb in_MD hown hK hP (lm_in (by decide)) h_8 rfl 18 (by decide) (htb _ tw_700) (fun _ h9 => h9) rfl d_MD_open_133 ?_
      refine lv_topi (fun x9 ex9 => ?_)
      have ex9 : x9 = S.2.2.2.2.1.1 := ex9.trans (i6)
      subst ex9
      refine lv_i2l hx hb d_MD_open_136 rfl ?_
      exact pz_lret hx hb hr hlocks hK hP hD hS (Nat.le_of_ble_eq_true rfl) (Nat.le_of_ble_eq_true rfl) ⟨M1, rfl, rfl, hR1, hth1⟩ d_MD_open_137
    · have hl : lv_has ls 2 [(0, .ref (A 0)), (1, .int 1)] := hl
      refine lv_tableIn (x := 1) (tgt := 138) hx hb d_MD_open_78 (by decide) (by decide) rfl (by decide) ?_
      refine lv_aload_n hx hb d_MD_open_138 rfl (lv_at hl 0 rfl) ?_
      have h_10 : mF G A M1 (A 0) = .inr (10, [.int M1.th, .ref (A 1), .ref (A 2), .ref (A 3), .ref (A 4), .ref (A 5), .int M1.ct, .int M1.ht, .int M1.tp, .int M1.gr, .ref (A 6), .ref (A 7), .ref (A 8), .ref (A 9), .ref (A 10), .ref (A 11), .ref (A 12), .int M1.pg, .int M1.bg, .int M1.io, .int M1.be, .int M1.le, .long M1.ln, .long M1.dp, .ref (A 13), .long M1.sh]) := mf_at hA9 M1 0 (by decide)
      refine pz_get (ci := 10) (C := "PageMakerModel") (T := T_MD) (N := 26) hx hb htb in_MD hown hK hP (lm_in (by decide)) h_10 rfl 22 (by decide) (htb _ tw_704) (fun _ h9 => h9) rfl d_MD_open_139 ?_
      refine lv_topl (fun x11 ex11 => ?_)
      have ex11 : x11 = S.2.2.2.2.2.1 := ex11.trans (htm.1)
      subst ex11
      exact pz_lret hx hb hr hlocks hK hP hD hS (Nat.le_of_ble_eq_true rfl) (Nat.le_of_ble_eq_true rfl) ⟨M1, rfl, rfl, hR1, hth1⟩ d_MD_open_142
    · have hl : lv_has ls 2 [(0, .ref (A 0)), (1, .int 2)] := hl
      refine lv_tableIn (x := 2) (tgt := 143) hx hb d_MD_open_78 (by decide) (by decide) rfl (by decide) ?_
      refine lv_aload_n hx hb d_MD_open_143 rfl (lv_at hl 0 rfl) ?_
      have h_12 : mF G A M1 (A 0) = .inr (10, [.int M1.th, .ref (A 1), .ref (A 2), .ref (A 3), .ref (A 4), .ref (A 5), .int M1.ct, .int M1.ht, .int M1.tp, .int M1.gr, .ref (A 6), .ref (A 7), .ref (A 8), .ref (A 9), .ref (A 10), .ref (A 11), .ref (A 12), .int M1.pg, .int M1.bg, .int M1.io, .int M1.be, .int M1.le, .long M1.ln, .long M1.dp, .ref (A 13), .long M1.sh]) := mf_at hA9 M1 0 (by decide)
      refine pz_get (ci := 10) (C := "PageMakerModel") (T := T_MD) (N := 26) hx hb htb in_MD hown hK hP (lm_in (by decide)) h_12 rfl 23 (by decide) (htb _ tw_705) (fun _ h9 => h9) rfl d_MD_open_144 ?_
      refine lv_topl (fun x13 ex13 => ?_)
      have ex13 : x13 = S.2.2.2.2.2.2.1 := ex13.trans (htm.2.1)
      subst ex13
      exact pz_lret hx hb hr hlocks hK hP hD hS (Nat.le_of_ble_eq_true rfl) (Nat.le_of_ble_eq_true rfl) ⟨M1, rfl, rfl, hR1, hth1⟩ d_MD_open_147
    · have hl : lv_has ls 2 [(0, .ref (A 0)), (1, .int 3)] := hl
      refine lv_tableIn (x := 3) (tgt := 165) hx hb d_MD_open_78 (by decide) (by decide) rfl (by decide) ?_
      refine lv_aload_n hx hb d_MD_open_165 rfl (lv_at hl 0 rfl) ?_
      have h_14 : mF G A M1 (A 0) = .inr (10, [.int M1.th, .ref (A 1), .ref (A 2), .ref (A 3), .ref (A 4), .ref (A 5), .int M1.ct, .int M1.ht, .int M1.tp, .int M1.gr, .ref (A 6), .ref (A 7), .ref (A 8), .ref (A 9), .ref (A 10), .ref (A 11), .ref (A 12), .int M1.pg, .int M1.bg, .int M1.io, .int M1.be, .int M1.le, .long M1.ln, .long M1.dp, .ref (A 13), .long M1.sh]) := mf_at hA9 M1 0 (by decide)
      refine pz_get (ci := 10) (C := "PageMakerModel") (T := T_MD) (N := 26) hx hb htb in_MD hown hK hP (lm_in (by decide)) h_14 rfl 24 (by decide) (htb _ tw_706) (fun _ h9 => h9) rfl d_MD_open_166 ?_
      refine lv_iload_n hx hb d_MD_open_169 rfl (lv_at hl 1 rfl) ?_
      refine lv_iconst (v := 3) hx hb d_MD_open_170 (by decide) ?_
      refine lv_isub hx hb d_MD_open_171 ?_
      refine lv_topi (fun x15 ex15 => ?_)
      have ex15 : x15 = 0 := ex15.trans (rfl)
      subst ex15
      have h_16 : mF G A M1 (A 13) = .inl (cJ G, 4, .inr (.inl M1.g)) := mf_at hA9 M1 13 (by decide)
      refine pz_laldN (j := 0) hx hb hK hP 1 (lm_in (by decide)) h_16 rfl (by decide) (by decide) d_MD_open_172 ?_
      exact pz_lret hx hb hr hlocks hK hP hD hS (Nat.le_of_ble_eq_true rfl) (Nat.le_of_ble_eq_true rfl) ⟨M1, rfl, htm.2.2.2 0 (by decide), hR1, hth1⟩ d_MD_open_173
    · have hl : lv_has ls 2 [(0, .ref (A 0)), (1, .int 4)] := hl
      refine lv_tableIn (x := 4) (tgt := 165) hx hb d_MD_open_78 (by decide) (by decide) rfl (by decide) ?_
      refine lv_aload_n hx hb d_MD_open_165 rfl (lv_at hl 0 rfl) ?_
      have h_17 : mF G A M1 (A 0) = .inr (10, [.int M1.th, .ref (A 1), .ref (A 2), .ref (A 3), .ref (A 4), .ref (A 5), .int M1.ct, .int M1.ht, .int M1.tp, .int M1.gr, .ref (A 6), .ref (A 7), .ref (A 8), .ref (A 9), .ref (A 10), .ref (A 11), .ref (A 12), .int M1.pg, .int M1.bg, .int M1.io, .int M1.be, .int M1.le, .long M1.ln, .long M1.dp, .ref (A 13), .long M1.sh]) := mf_at hA9 M1 0 (by decide)
      refine pz_get (ci := 10) (C := "PageMakerModel") (T := T_MD) (N := 26) hx hb htb in_MD hown hK hP (lm_in (by decide)) h_17 rfl 24 (by decide) (htb _ tw_706) (fun _ h9 => h9) rfl d_MD_open_166 ?_
      refine lv_iload_n hx hb d_MD_open_169 rfl (lv_at hl 1 rfl) ?_
      refine lv_iconst (v := 3) hx hb d_MD_open_170 (by decide) ?_
      refine lv_isub hx hb d_MD_open_171 ?_
      refine lv_topi (fun x18 ex18 => ?_)
      have ex18 : x18 = 1 := ex18.trans (rfl)
      subst ex18
      have h_19 : mF G A M1 (A 13) = .inl (cJ G, 4, .inr (.inl M1.g)) := mf_at hA9 M1 13 (by decide)
      refine pz_laldN (j := 1) hx hb hK hP 1 (lm_in (by decide)) h_19 rfl (by decide) (by decide) d_MD_open_172 ?_
      exact pz_lret hx hb hr hlocks hK hP hD hS (Nat.le_of_ble_eq_true rfl) (Nat.le_of_ble_eq_true rfl) ⟨M1, rfl, htm.2.2.2 1 (by decide), hR1, hth1⟩ d_MD_open_173
    · have hl : lv_has ls 2 [(0, .ref (A 0)), (1, .int 5)] := hl
      refine lv_tableIn (x := 5) (tgt := 165) hx hb d_MD_open_78 (by decide) (by decide) rfl (by decide) ?_
      refine lv_aload_n hx hb d_MD_open_165 rfl (lv_at hl 0 rfl) ?_
      have h_20 : mF G A M1 (A 0) = .inr (10, [.int M1.th, .ref (A 1), .ref (A 2), .ref (A 3), .ref (A 4), .ref (A 5), .int M1.ct, .int M1.ht, .int M1.tp, .int M1.gr, .ref (A 6), .ref (A 7), .ref (A 8), .ref (A 9), .ref (A 10), .ref (A 11), .ref (A 12), .int M1.pg, .int M1.bg, .int M1.io, .int M1.be, .int M1.le, .long M1.ln, .long M1.dp, .ref (A 13), .long M1.sh]) := mf_at hA9 M1 0 (by decide)
      refine pz_get (ci := 10) (C := "PageMakerModel") (T := T_MD) (N := 26) hx hb htb in_MD hown hK hP (lm_in (by decide)) h_20 rfl 24 (by decide) (htb _ tw_706) (fun _ h9 => h9) rfl d_MD_open_166 ?_
      refine lv_iload_n hx hb d_MD_open_169 rfl (lv_at hl 1 rfl) ?_
      refine lv_iconst (v := 3) hx hb d_MD_open_170 (by decide) ?_
      refine lv_isub hx hb d_MD_open_171 ?_
      refine lv_topi (fun x21 ex21 => ?_)
      have ex21 : x21 = 2 := ex21.trans (rfl)
      subst ex21
      have h_22 : mF G A M1 (A 13) = .inl (cJ G, 4, .inr (.inl M1.g)) := mf_at hA9 M1 13 (by decide)
      refine pz_laldN (j := 2) hx hb hK hP 1 (lm_in (by decide)) h_22 rfl (by decide) (by decide) d_MD_open_172 ?_
      exact pz_lret hx hb hr hlocks hK hP hD hS (Nat.le_of_ble_eq_true rfl) (Nat.le_of_ble_eq_true rfl) ⟨M1, rfl, htm.2.2.2 2 (by decide), hR1, hth1⟩ d_MD_open_173
    · have hl : lv_has ls 2 [(0, .ref (A 0)), (1, .int 6)] := hl
      refine lv_tableIn (x := 6) (tgt := 165) hx hb d_MD_open_78 (by decide) (by decide) rfl (by decide) ?_
      refine lv_aload_n hx hb d_MD_open_165 rfl (lv_at hl 0 rfl) ?_
      have h_23 : mF G A M1 (A 0) = .inr (10, [.int M1.th, .ref (A 1), .ref (A 2), .ref (A 3), .ref (A 4), .ref (A 5), .int M1.ct, .int M1.ht, .int M1.tp, .int M1.gr, .ref (A 6), .ref (A 7), .ref (A 8), .ref (A 9), .ref (A 10), .ref (A 11), .ref (A 12), .int M1.pg, .int M1.bg, .int M1.io, .int M1.be, .int M1.le, .long M1.ln, .long M1.dp, .ref (A 13), .long M1.sh]) := mf_at hA9 M1 0 (by decide)
      refine pz_get (ci := 10) (C := "PageMakerModel") (T := T_MD) (N := 26) hx hb htb in_MD hown hK hP (lm_in (by decide)) h_23 rfl 24 (by decide) (htb _ tw_706) (fun _ h9 => h9) rfl d_MD_open_166 ?_
      refine lv_iload_n hx hb d_MD_open_169 rfl (lv_at hl 1 rfl) ?_
      refine lv_iconst (v := 3) hx hb d_MD_open_170 (by decide) ?_
      refine lv_isub hx hb d_MD_open_171 ?_
      refine lv_topi (fun x24 ex24 => ?_)
      have ex24 : x24 = 3 := ex24.trans (rfl)
      subst ex24
      have h_25 : mF G A M1 (A 13) = .inl (cJ G, 4, .inr (.inl M1.g)) := mf_at hA9 M1 13 (by decide)
      refine pz_laldN (j := 3) hx hb hK hP 1 (lm_in (by decide)) h_25 rfl (by decide) (by decide) d_MD_open_172 ?_
      exact pz_lret hx hb hr hlocks hK hP hD hS (Nat.le_of_ble_eq_true rfl) (Nat.le_of_ble_eq_true rfl) ⟨M1, rfl, htm.2.2.2 3 (by decide), hR1, hth1⟩ d_MD_open_173
    · have hl : lv_has ls 2 [(0, .ref (A 0)), (1, .int 7)] := hl
      refine lv_tableIn (x := 7) (tgt := 148) hx hb d_MD_open_78 (by decide) (by decide) rfl (by decide) ?_
      refine lv_aload_n hx hb d_MD_open_148 rfl (lv_at hl 0 rfl) ?_
      have h_26 : mF G A M1 (A 0) = .inr (10, [.int M1.th, .ref (A 1), .ref (A 2), .ref (A 3), .ref (A 4), .ref (A 5), .int M1.ct, .int M1.ht, .int M1.tp, .int M1.gr, .ref (A 6), .ref (A 7), .ref (A 8), .ref (A 9), .ref (A 10), .ref (A 11), .ref (A 12), .int M1.pg, .int M1.bg, .int M1.io, .int M1.be, .int M1.le, .long M1.ln, .long M1.dp, .ref (A 13), .long M1.sh]) := mf_at hA9 M1 0 (by decide)
      refine pz_get (ci := 10) (C := "PageMakerModel") (T := T_MD) (N := 26) hx hb htb in_MD hown hK hP (lm_in (by decide)) h_26 rfl 20 (by decide) (htb _ tw_702) (fun _ h9 => h9) rfl d_MD_open_149 ?_
      refine lv_topi (fun x27 ex27 => ?_)
      have ex27 : x27 = S.2.2.2.2.1.2.2.1 := ex27.trans (i8)
      subst ex27
      refine lv_i2l hx hb d_MD_open_152 rfl ?_
      exact pz_lret hx hb hr hlocks hK hP hD hS (Nat.le_of_ble_eq_true rfl) (Nat.le_of_ble_eq_true rfl) ⟨M1, rfl, rfl, hR1, hth1⟩ d_MD_open_153
    · have hl : lv_has ls 2 [(0, .ref (A 0)), (1, .int 8)] := hl
      refine lv_tableIn (x := 8) (tgt := 154) hx hb d_MD_open_78 (by decide) (by decide) rfl (by decide) ?_
      refine lv_aload_n hx hb d_MD_open_154 rfl (lv_at hl 0 rfl) ?_
      have h_28 : mF G A M1 (A 0) = .inr (10, [.int M1.th, .ref (A 1), .ref (A 2), .ref (A 3), .ref (A 4), .ref (A 5), .int M1.ct, .int M1.ht, .int M1.tp, .int M1.gr, .ref (A 6), .ref (A 7), .ref (A 8), .ref (A 9), .ref (A 10), .ref (A 11), .ref (A 12), .int M1.pg, .int M1.bg, .int M1.io, .int M1.be, .int M1.le, .long M1.ln, .long M1.dp, .ref (A 13), .long M1.sh]) := mf_at hA9 M1 0 (by decide)
      refine pz_get (ci := 10) (C := "PageMakerModel") (T := T_MD) (N := 26) hx hb htb in_MD hown hK hP (lm_in (by decide)) h_28 rfl 21 (by decide) (htb _ tw_703) (fun _ h9 => h9) rfl d_MD_open_155 ?_
      refine lv_topi (fun x29 ex29 => ?_)
      have ex29 : x29 = S.2.2.2.2.1.2.2.2.1 := ex29.trans (i9)
      subst ex29
      refine lv_i2l hx hb d_MD_open_158 rfl ?_
      exact pz_lret hx hb hr hlocks hK hP hD hS (Nat.le_of_ble_eq_true rfl) (Nat.le_of_ble_eq_true rfl) ⟨M1, rfl, rfl, hR1, hth1⟩ d_MD_open_159
    · have hl : lv_has ls 2 [(0, .ref (A 0)), (1, .int 9)] := hl
      refine lv_tableIn (x := 9) (tgt := 160) hx hb d_MD_open_78 (by decide) (by decide) rfl (by decide) ?_
      refine lv_aload_n hx hb d_MD_open_160 rfl (lv_at hl 0 rfl) ?_
      have h_30 : mF G A M1 (A 0) = .inr (10, [.int M1.th, .ref (A 1), .ref (A 2), .ref (A 3), .ref (A 4), .ref (A 5), .int M1.ct, .int M1.ht, .int M1.tp, .int M1.gr, .ref (A 6), .ref (A 7), .ref (A 8), .ref (A 9), .ref (A 10), .ref (A 11), .ref (A 12), .int M1.pg, .int M1.bg, .int M1.io, .int M1.be, .int M1.le, .long M1.ln, .long M1.dp, .ref (A 13), .long M1.sh]) := mf_at hA9 M1 0 (by decide)
      refine pz_get (ci := 10) (C := "PageMakerModel") (T := T_MD) (N := 26) hx hb htb in_MD hown hK hP (lm_in (by decide)) h_30 rfl 25 (by decide) (htb _ tw_707) (fun _ h9 => h9) rfl d_MD_open_161 ?_
      refine lv_topl (fun x31 ex31 => ?_)
      have ex31 : x31 = S.2.2.2.2.2.2.2.1 := ex31.trans (htm.2.2.1)
      subst ex31
      exact pz_lret hx hb hr hlocks hK hP hD hS (Nat.le_of_ble_eq_true rfl) (Nat.le_of_ble_eq_true rfl) ⟨M1, rfl, rfl, hR1, hth1⟩ d_MD_open_164
set_option maxHeartbeats 4000000 in
set_option maxRecDepth 100000 in
/-- model: open, wrong -/
theorem x_MD_open (l : Launch) (G : gG) (A : Nat → Nat) (hA9 : mJn A) (M : MS) (sz : Nat) (n : Int32) (hno9 : ¬ (0 ≤ n ∧ n < 10)) : mJ l y_MD_open w_MD_open ({ frames := 0, cells := 0, slots := 0, locals := 0 }) G (LM A) (mF G A M) sz [.ref (A 0), .int n] 0 0 (fun r u => r = 0 ∧ u = (LM A, mF G A (M.si 0 1))) := by
  refine pz_met (cc := prog_12_method_29_code) (maxL := 2) (ret := (some .long)) (by decide) rfl (Nat.le_of_ble_eq_true rfl) ?_
  intro p e s m below meth c ls hx hb hr hml hts hown hlocks hin hsz hK hP hD hS hA hz hl
  have htb : ∀ w ∈ TB, w.before _ s = true := fun w h => hts w (List.mem_cons_of_mem _ h)
  have hl : lv_has ls 2 [(0, .ref (A 0)), (1, .int n)] := hl
  refine lv_aload_n hx hb d_MD_open_0 rfl (lv_at hl 0 rfl) ?_
  refine lv_iload_n hx hb d_MD_open_1 rfl (lv_at hl 1 rfl) ?_
  refine lv_if_lt (tgt := 11) hx hb d_MD_open_2 (by decide) (fun c_1 => ?_) (fun c_1 => ?_)
  · refine lv_iconst (v := 1) hx hb d_MD_open_11 (by decide) ?_
    refine lv_goto (tgt := 16) hx hb d_MD_open_12 (by decide) ?_
    have h_2 : mF G A M (A 0) = .inr (10, [.int M.th, .ref (A 1), .ref (A 2), .ref (A 3), .ref (A 4), .ref (A 5), .int M.ct, .int M.ht, .int M.tp, .int M.gr, .ref (A 6), .ref (A 7), .ref (A 8), .ref (A 9), .ref (A 10), .ref (A 11), .ref (A 12), .int M.pg, .int M.bg, .int M.io, .int M.be, .int M.le, .long M.ln, .long M.dp, .ref (A 13), .long M.sh]) := mf_at hA9 M 0 (by decide)
    refine pz_put (ci := 10) (v := .int 1) (ty := .int) (C := "PageMakerModel") (T := T_MD) (N := 26) hx hb htb in_MD ty_MD to_MD nm_MD hown hK hP hD hS (lm_in (by decide)) h_2 rfl 0 (by decide) (htb _ tw_682) (fun _ h9 => h9) rfl rfl rfl rfl (Nat.le_of_ble_eq_true rfl) d_MD_open_16 (fun f3 H locs ef3 hP hD hS => ?_)
    have ef3 : f3 = va_up (mF G A M) (A 0) (.inr (10, [.int 1, .ref (A 1), .ref (A 2), .ref (A 3), .ref (A 4), .ref (A 5), .int M.ct, .int M.ht, .int M.tp, .int M.gr, .ref (A 6), .ref (A 7), .ref (A 8), .ref (A 9), .ref (A 10), .ref (A 11), .ref (A 12), .int M.pg, .int M.bg, .int M.io, .int M.be, .int M.le, .long M.ln, .long M.dp, .ref (A 13), .long M.sh])) := ef3
    have ef3 : f3 = mF G A (M.si 0 1) := ef3.trans (mf_o hA9 (M1 := M.si 0 1) rfl rfl)
    subst ef3
    refine lv_aload_n hx hb d_MD_open_19 rfl (lv_at hl 0 rfl) ?_
    have h_4 : mF G A (M.si 0 1) (A 0) = .inr (10, [.int 1, .ref (A 1), .ref (A 2), .ref (A 3), .ref (A 4), .ref (A 5), .int M.ct, .int M.ht, .int M.tp, .int M.gr, .ref (A 6), .ref (A 7), .ref (A 8), .ref (A 9), .ref (A 10), .ref (A 11), .ref (A 12), .int M.pg, .int M.bg, .int M.io, .int M.be, .int M.le, .long M.ln, .long M.dp, .ref (A 13), .long M.sh]) := mf_at hA9 (M.si 0 1) 0 (by decide)
    refine pz_get (ci := 10) (C := "PageMakerModel") (T := T_MD) (N := 26) hx hb htb in_MD hown hK hP (lm_in (by decide)) h_4 rfl 0 (by decide) (htb _ tw_682) (fun _ h9 => h9) rfl d_MD_open_20 ?_
    refine lv_if_le (tgt := 28) hx hb d_MD_open_23 (by decide) (fun c0 => absurd c0 (by decide)) (fun _ => ?_)
    refine lv_lconst (v := 0) hx hb d_MD_open_26 rfl ?_
    exact pz_lret hx hb hr hlocks hK hP hD hS (Nat.le_of_ble_eq_true rfl) (Nat.le_of_ble_eq_true rfl) ⟨rfl, rfl⟩ d_MD_open_27
  · refine lv_iload_n hx hb d_MD_open_5 rfl (lv_at hl 1 rfl) ?_
    refine lv_bipush (v := 9) hx hb d_MD_open_6 (by decide) ?_
    refine lv_icmp_le (tgt := 15) hx hb d_MD_open_8 (by decide) (fun c_5 => ?_) (fun c_5 => ?_)
    · exact absurd ⟨i32_le c_1, i32_lt10 c_5⟩ hno9
    · refine lv_iconst (v := 1) hx hb d_MD_open_11 (by decide) ?_
      refine lv_goto (tgt := 16) hx hb d_MD_open_12 (by decide) ?_
      have h_6 : mF G A M (A 0) = .inr (10, [.int M.th, .ref (A 1), .ref (A 2), .ref (A 3), .ref (A 4), .ref (A 5), .int M.ct, .int M.ht, .int M.tp, .int M.gr, .ref (A 6), .ref (A 7), .ref (A 8), .ref (A 9), .ref (A 10), .ref (A 11), .ref (A 12), .int M.pg, .int M.bg, .int M.io, .int M.be, .int M.le, .long M.ln, .long M.dp, .ref (A 13), .long M.sh]) := mf_at hA9 M 0 (by decide)
      refine pz_put (ci := 10) (v := .int 1) (ty := .int) (C := "PageMakerModel") (T := T_MD) (N := 26) hx hb htb in_MD ty_MD to_MD nm_MD hown hK hP hD hS (lm_in (by decide)) h_6 rfl 0 (by decide) (htb _ tw_682) (fun _ h9 => h9) rfl rfl rfl rfl (Nat.le_of_ble_eq_true rfl) d_MD_open_16 (fun f7 H locs ef7 hP hD hS => ?_)
      have ef7 : f7 = va_up (mF G A M) (A 0) (.inr (10, [.int 1, .ref (A 1), .ref (A 2), .ref (A 3), .ref (A 4), .ref (A 5), .int M.ct, .int M.ht, .int M.tp, .int M.gr, .ref (A 6), .ref (A 7), .ref (A 8), .ref (A 9), .ref (A 10), .ref (A 11), .ref (A 12), .int M.pg, .int M.bg, .int M.io, .int M.be, .int M.le, .long M.ln, .long M.dp, .ref (A 13), .long M.sh])) := ef7
      have ef7 : f7 = mF G A (M.si 0 1) := ef7.trans (mf_o hA9 (M1 := M.si 0 1) rfl rfl)
      subst ef7
      refine lv_aload_n hx hb d_MD_open_19 rfl (lv_at hl 0 rfl) ?_
      have h_8 : mF G A (M.si 0 1) (A 0) = .inr (10, [.int 1, .ref (A 1), .ref (A 2), .ref (A 3), .ref (A 4), .ref (A 5), .int M.ct, .int M.ht, .int M.tp, .int M.gr, .ref (A 6), .ref (A 7), .ref (A 8), .ref (A 9), .ref (A 10), .ref (A 11), .ref (A 12), .int M.pg, .int M.bg, .int M.io, .int M.be, .int M.le, .long M.ln, .long M.dp, .ref (A 13), .long M.sh]) := mf_at hA9 (M.si 0 1) 0 (by decide)
      refine pz_get (ci := 10) (C := "PageMakerModel") (T := T_MD) (N := 26) hx hb htb in_MD hown hK hP (lm_in (by decide)) h_8 rfl 0 (by decide) (htb _ tw_682) (fun _ h9 => h9) rfl d_MD_open_20 ?_
      refine lv_if_le (tgt := 28) hx hb d_MD_open_23 (by decide) (fun c0 => absurd c0 (by decide)) (fun _ => ?_)
      refine lv_lconst (v := 0) hx hb d_MD_open_26 rfl ?_
      exact pz_lret hx hb hr hlocks hK hP hD hS (Nat.le_of_ble_eq_true rfl) (Nat.le_of_ble_eq_true rfl) ⟨rfl, rfl⟩ d_MD_open_27
set_option maxHeartbeats 4000000 in
set_option maxRecDepth 100000 in
/-- model: where, its loop at k -/
theorem lp_whereM (l : Launch) (G : gG) (A : Nat → Nat) (hA9 : mJn A) (M : MS) (sz : Nat) (S : CS) (i : Int32) {p : Program} {e : Env} {s : State} {m : MethodId} {below : List Frame} {meth : Method} {c : Code} (hx : p.tables.exec = Jvm.exec) (hb : c.code = prog_12_method_28_code) (hr : meth.sig.returnType = (some .int)) (hml : c.maxLocals = 4) (hts : ∀ w ∈ w_MD_where, w.before ([.ref (A 0), .int i] : List Value).toArray s = true) (hown : s.vm.findClass "PageMakerModel" = some m.cls) (hlocks : meth.locks = false) (hK : va_K (gD G) cls9 (gT G) s) (hA : ∀ q, s.heap.size ≤ q → mA (LM A) (mF G A M) sz q) (hz : gZ G (mA (LM A) (mF G A M) sz) s s.heap) (hJ : J S S.1.length) (hR : MR M S) :
    ∀ (mm k : Nat) (x : Int32) (H : Heap) (locs : List Loc) (ls : Array Slot), k + mm = S.2.2.1.length → whI S.2.2.1 i k x → va_P (gD G) cls9 ([] ++ va_pl (LM A) (mF G A (M.si 0 0))) H → va_D (mA (LM A) (mF G A M) sz) ([] ++ va_pl (LM A) (mF G A (M.si 0 0))) → va_S (mA (LM A) (mF G A M) sz) s.heap H locs → lv_has ls 4 [(0, .ref (A 0)), (1, .int i), (2, .int x), (3, .int (nI k))] →
      W p l e ({ frames := 0, cells := 0, slots := 0, locals := 0 } : Room) s m ([.ref (A 0), .int i] : List Value).toArray below meth c H locs 0 0 (MQ below (va_Qi (fun r u => r = wh_v S.2.2.1 i 0 ∧ u = (LM A, mF G A (M.si 0 0))) (pz_B (gD G) cls9 (gT G) (mA (LM A) (mF G A M) sz)) (mA (LM A) (mF G A M) sz)) ([.ref (A 0), .int i] : List Value).toArray s 0 0 (mA (LM A) (mF G A M) sz)) (F0 m 25 ls []) := by
  have htb : ∀ w ∈ TB, w.before _ s = true := fun w h => hts w (List.mem_cons_of_mem _ h)
  have hp5 : S.2.2.1.length ≤ 512 := j_pgs hJ
  have q5 : M.pg = nI S.2.2.1.length := hR.1.2.2.2.2.1
  intro mm
  induction mm with
  | zero =>
    intro k x H locs ls hk hx9 hP hD hS hl
    refine lv_iload_n hx hb d_MD_where_25 rfl (lv_at hl 3 rfl) ?_
    refine lv_aload_n hx hb d_MD_where_26 rfl (lv_at hl 0 rfl) ?_
    have h_1 : mF G A (M.si 0 0) (A 0) = .inr (10, [.int 0, .ref (A 1), .ref (A 2), .ref (A 3), .ref (A 4), .ref (A 5), .int M.ct, .int M.ht, .int M.tp, .int M.gr, .ref (A 6), .ref (A 7), .ref (A 8), .ref (A 9), .ref (A 10), .ref (A 11), .ref (A 12), .int M.pg, .int M.bg, .int M.io, .int M.be, .int M.le, .long M.ln, .long M.dp, .ref (A 13), .long M.sh]) := mf_at hA9 (M.si 0 0) 0 (by decide)
    refine pz_get (ci := 10) (C := "PageMakerModel") (T := T_MD) (N := 26) hx hb htb in_MD hown hK hP (lm_in (by decide)) h_1 rfl 17 (by decide) (htb _ tw_699) (fun _ h9 => h9) rfl d_MD_where_27 ?_
    refine lv_topi (fun x2 ex2 => ?_)
    have ex2 : x2 = nI S.2.2.1.length := ex2.trans (q5)
    subst ex2
    refine lv_icmp_ge (tgt := 72) hx hb d_MD_where_30 (by decide) (fun _ => ?_) (fun c0 => absurd (nI_le (by omega) (by omega)) c0)
    refine lv_aload_n hx hb d_MD_where_72 rfl (lv_at hl 0 rfl) ?_
    refine pz_get (ci := 10) (C := "PageMakerModel") (T := T_MD) (N := 26) hx hb htb in_MD hown hK hP (lm_in (by decide)) h_1 rfl 0 (by decide) (htb _ tw_682) (fun _ h9 => h9) rfl d_MD_where_73 ?_
    refine lv_if_le (tgt := 83) hx hb d_MD_where_76 (by decide) (fun _ => ?_) (fun c0 => absurd c0 (by decide))
    refine lv_iload_n hx hb d_MD_where_83 rfl (lv_at hl 2 rfl) ?_
    exact pz_iret hx hb hr rfl hlocks hK hP hD hS (Nat.le_refl _) (Nat.le_refl _) ⟨wh_of hJ.2.2.2.1 (by rw [← hk]; exact hx9), rfl⟩ d_MD_where_84
  | succ mm ih =>
    intro k x H locs ls hk hx9 hP hD hS hl
    obtain ⟨pg, hp9⟩ : ∃ pg, S.2.2.1[k]? = some pg := ⟨_, List.getElem?_eq_getElem (by omega)⟩
    obtain ⟨m6, m7, m8, m9, m10, m11, m12⟩ := hR.1.2.2.2.2.2 k pg hp9
    refine lv_iload_n hx hb d_MD_where_25 rfl (lv_at hl 3 rfl) ?_
    refine lv_aload_n hx hb d_MD_where_26 rfl (lv_at hl 0 rfl) ?_
    have h_3 : mF G A (M.si 0 0) (A 0) = .inr (10, [.int 0, .ref (A 1), .ref (A 2), .ref (A 3), .ref (A 4), .ref (A 5), .int M.ct, .int M.ht, .int M.tp, .int M.gr, .ref (A 6), .ref (A 7), .ref (A 8), .ref (A 9), .ref (A 10), .ref (A 11), .ref (A 12), .int M.pg, .int M.bg, .int M.io, .int M.be, .int M.le, .long M.ln, .long M.dp, .ref (A 13), .long M.sh]) := mf_at hA9 (M.si 0 0) 0 (by decide)
    refine pz_get (ci := 10) (C := "PageMakerModel") (T := T_MD) (N := 26) hx hb htb in_MD hown hK hP (lm_in (by decide)) h_3 rfl 17 (by decide) (htb _ tw_699) (fun _ h9 => h9) rfl d_MD_where_27 ?_
    refine lv_topi (fun x4 ex4 => ?_)
    have ex4 : x4 = nI S.2.2.1.length := ex4.trans (q5)
    subst ex4
    refine lv_icmp_ge (tgt := 72) hx hb d_MD_where_30 (by decide) (fun c0 => absurd c0 (nI_ge (by omega) (by omega))) (fun _ => ?_)
    refine lv_aload_n hx hb d_MD_where_33 rfl (lv_at hl 0 rfl) ?_
    refine pz_get (ci := 10) (C := "PageMakerModel") (T := T_MD) (N := 26) hx hb htb in_MD hown hK hP (lm_in (by decide)) h_3 rfl 0 (by decide) (htb _ tw_682) (fun _ h9 => h9) rfl d_MD_where_34 ?_
    refine lv_if_ne (tgt := 72) hx hb d_MD_where_37 (by decide) (fun c0 => absurd c0 (by decide)) (fun _ => ?_)
    refine lv_iload_n hx hb d_MD_where_40 rfl (lv_at hl 1 rfl) ?_
    refine lv_aload_n hx hb d_MD_where_41 rfl (lv_at hl 0 rfl) ?_
    refine pz_get (ci := 10) (C := "PageMakerModel") (T := T_MD) (N := 26) hx hb htb in_MD hown hK hP (lm_in (by decide)) h_3 rfl 13 (by decide) (htb _ tw_695) (fun _ h9 => h9) rfl d_MD_where_42 ?_
    refine lv_iload_n hx hb d_MD_where_45 rfl (lv_at hl 3 rfl) ?_
    have h_5 : mF G A (M.si 0 0) (A 9) = .inl (cI G, 2001, .inl M.fs) := mf_at hA9 (M.si 0 0) 9 (by decide)
    refine pz_iald (j := k) hx hb hK hP 0 (lm_in (by decide)) h_5 rfl (by omega) (by decide) d_MD_where_46 ?_
    refine lv_topi (fun x6 ex6 => ?_)
    have ex6 : x6 = pg.2.1 := ex6.trans (m9)
    subst ex6
    refine lv_icmp_lt (tgt := 64) hx hb d_MD_where_47 (by decide) (fun c_7 => ?_) (fun c_7 => ?_)
    · refine lv_iload_n hx hb d_MD_where_64 rfl (lv_at hl 2 rfl) ?_
      refine lv_istore_n (lv' := [(2, .int x), (0, .ref (A 0)), (1, .int i), (3, .int (nI k))]) hx hb d_MD_where_65 rfl hl (by decide) rfl (fun ls hl => ?_)
      refine lv_iinc (v := nI (k + 1)) (lv' := [(3, .int (nI (k + 1))), (2, .int x), (0, .ref (A 0)), (1, .int i)]) hx hb d_MD_where_66 hl (k := 3) rfl (nI_1 _) (by decide) rfl (fun ls hl => ?_)
      refine lv_goto (tgt := 25) hx hb d_MD_where_69 (by decide) ?_
      exact ih (k + 1) x H locs ls (by omega) (wh_no hx9 hp9 (fun h9 => absurd h9.1 (i32_nle c_7))) hP hD hS (lv_sub hl [2, 3, 1, 0] rfl)
    · refine lv_iload_n hx hb d_MD_where_50 rfl (lv_at hl 1 rfl) ?_
      refine lv_aload_n hx hb d_MD_where_51 rfl (lv_at hl 0 rfl) ?_
      refine pz_get (ci := 10) (C := "PageMakerModel") (T := T_MD) (N := 26) hx hb htb in_MD hown hK hP (lm_in (by decide)) h_3 rfl 14 (by decide) (htb _ tw_696) (fun _ h9 => h9) rfl d_MD_where_52 ?_
      refine lv_iload_n hx hb d_MD_where_55 rfl (lv_at hl 3 rfl) ?_
      have h_8 : mF G A (M.si 0 0) (A 10) = .inl (cI G, 2001, .inl M.es) := mf_at hA9 (M.si 0 0) 10 (by decide)
      refine pz_iald (j := k) hx hb hK hP 0 (lm_in (by decide)) h_8 rfl (by omega) (by decide) d_MD_where_56 ?_
      refine lv_topi (fun x9 ex9 => ?_)
      have ex9 : x9 = pg.2.2.1 := ex9.trans (m10)
      subst ex9
      refine lv_icmp_ge (tgt := 64) hx hb d_MD_where_57 (by decide) (fun c_10 => ?_) (fun c_10 => ?_)
      · refine lv_iload_n hx hb d_MD_where_64 rfl (lv_at hl 2 rfl) ?_
        refine lv_istore_n (lv' := [(2, .int x), (0, .ref (A 0)), (1, .int i), (3, .int (nI k))]) hx hb d_MD_where_65 rfl hl (by decide) rfl (fun ls hl => ?_)
        refine lv_iinc (v := nI (k + 1)) (lv' := [(3, .int (nI (k + 1))), (2, .int x), (0, .ref (A 0)), (1, .int i)]) hx hb d_MD_where_66 hl (k := 3) rfl (nI_1 _) (by decide) rfl (fun ls hl => ?_)
        refine lv_goto (tgt := 25) hx hb d_MD_where_69 (by decide) ?_
        exact ih (k + 1) x H locs ls (by omega) (wh_no hx9 hp9 (fun h9 => absurd h9.2 (i32_nlt c_10))) hP hD hS (lv_sub hl [2, 3, 1, 0] rfl)
      · refine lv_iload_n hx hb d_MD_where_60 rfl (lv_at hl 3 rfl) ?_
        refine lv_goto (tgt := 65) hx hb d_MD_where_61 (by decide) ?_
        refine lv_istore_n (lv' := [(2, .int (nI k)), (0, .ref (A 0)), (1, .int i), (3, .int (nI k))]) hx hb d_MD_where_65 rfl hl (by decide) rfl (fun ls hl => ?_)
        refine lv_iinc (v := nI (k + 1)) (lv' := [(3, .int (nI (k + 1))), (2, .int (nI k)), (0, .ref (A 0)), (1, .int i)]) hx hb d_MD_where_66 hl (k := 3) rfl (nI_1 _) (by decide) rfl (fun ls hl => ?_)
        refine lv_goto (tgt := 25) hx hb d_MD_where_69 (by decide) ?_
        exact ih (k + 1) (nI k) H locs ls (by omega) (wh_yes hp9 ⟨i32_le c_7, i32_lt c_10⟩) hP hD hS (lv_sub hl [2, 3, 1, 0] rfl)
set_option maxHeartbeats 4000000 in
set_option maxRecDepth 100000 in
/-- model: where(i) -/
theorem c_MD_where (l : Launch) (G : gG) (A : Nat → Nat) (hA9 : mJn A) (M : MS) (sz : Nat) (S : CS) (i : Int32) (hJ : J S S.1.length) (hR : MR M S) (hi : 0 ≤ i ∧ i < nI S.1.length) : mI l y_MD_where w_MD_where ({ frames := 0, cells := 0, slots := 0, locals := 0 }) G (LM A) (mF G A M) sz [.ref (A 0), .int i] 0 0 (fun r u => r = wh_v S.2.2.1 i 0 ∧ u = (LM A, mF G A (M.si 0 0))) := by
  refine pz_met (cc := prog_12_method_28_code) (maxL := 4) (ret := (some .int)) (by decide) rfl (Nat.le_of_ble_eq_true rfl) ?_
  intro p e s m below meth c ls hx hb hr hml hts hown hlocks hin hsz hK hP hD hS hA hz hl
  have htb : ∀ w ∈ TB, w.before _ s = true := fun w h => hts w (List.mem_cons_of_mem _ h)
  have hl : lv_has ls 4 [(0, .ref (A 0)), (1, .int i)] := hl
  have q1 : M.ct = nI S.1.length := hR.1.1.1
  refine lv_aload_n hx hb d_MD_where_0 rfl (lv_at hl 0 rfl) ?_
  refine lv_iload_n hx hb d_MD_where_1 rfl (lv_at hl 1 rfl) ?_
  refine lv_if_lt (tgt := 13) hx hb d_MD_where_2 (by decide) (fun c0 => absurd c0 (i32_nlt hi.1)) (fun _ => ?_)
  refine lv_iload_n hx hb d_MD_where_5 rfl (lv_at hl 1 rfl) ?_
  refine lv_aload_n hx hb d_MD_where_6 rfl (lv_at hl 0 rfl) ?_
  have h_1 : mF G A M (A 0) = .inr (10, [.int M.th, .ref (A 1), .ref (A 2), .ref (A 3), .ref (A 4), .ref (A 5), .int M.ct, .int M.ht, .int M.tp, .int M.gr, .ref (A 6), .ref (A 7), .ref (A 8), .ref (A 9), .ref (A 10), .ref (A 11), .ref (A 12), .int M.pg, .int M.bg, .int M.io, .int M.be, .int M.le, .long M.ln, .long M.dp, .ref (A 13), .long M.sh]) := mf_at hA9 M 0 (by decide)
  refine pz_get (ci := 10) (C := "PageMakerModel") (T := T_MD) (N := 26) hx hb htb in_MD hown hK hP (lm_in (by decide)) h_1 rfl 6 (by decide) (htb _ tw_688) (fun _ h9 => h9) rfl d_MD_where_7 ?_
  refine lv_topi (fun x2 ex2 => ?_)
  have ex2 : x2 = nI S.1.length := ex2.trans (q1)
  subst ex2
  refine lv_icmp_lt (tgt := 17) hx hb d_MD_where_10 (by decide) (fun _ => ?_) (fun c0 => absurd hi.2 c0)
  refine lv_iconst (v := 0) hx hb d_MD_where_17 (by decide) ?_
  refine pz_put (ci := 10) (v := .int 0) (ty := .int) (C := "PageMakerModel") (T := T_MD) (N := 26) hx hb htb in_MD ty_MD to_MD nm_MD hown hK hP hD hS (lm_in (by decide)) h_1 rfl 0 (by decide) (htb _ tw_682) (fun _ h9 => h9) rfl rfl rfl rfl (Nat.le_of_ble_eq_true rfl) d_MD_where_18 (fun f3 H locs ef3 hP hD hS => ?_)
  have ef3 : f3 = va_up (mF G A M) (A 0) (.inr (10, [.int 0, .ref (A 1), .ref (A 2), .ref (A 3), .ref (A 4), .ref (A 5), .int M.ct, .int M.ht, .int M.tp, .int M.gr, .ref (A 6), .ref (A 7), .ref (A 8), .ref (A 9), .ref (A 10), .ref (A 11), .ref (A 12), .int M.pg, .int M.bg, .int M.io, .int M.be, .int M.le, .long M.ln, .long M.dp, .ref (A 13), .long M.sh])) := ef3
  have ef3 : f3 = mF G A (M.si 0 0) := ef3.trans (mf_o hA9 (M1 := M.si 0 0) rfl rfl)
  subst ef3
  refine lv_iconst (v := (-1)) hx hb d_MD_where_21 (by decide) ?_
  refine lv_istore_n (lv' := [(2, .int (-1)), (0, .ref (A 0)), (1, .int i)]) hx hb d_MD_where_22 rfl hl (by decide) rfl (fun ls hl => ?_)
  refine lv_iconst (v := 0) hx hb d_MD_where_23 (by decide) ?_
  refine lv_istore_n (lv' := [(3, .int 0), (2, .int (-1)), (0, .ref (A 0)), (1, .int i)]) hx hb d_MD_where_24 rfl hl (by decide) rfl (fun ls hl => ?_)
  exact lp_whereM l G A hA9 M sz S i hx hb hr hml hts hown hlocks hK hA hz hJ hR S.2.2.1.length 0 (-1) H locs ls (by omega) wh_0 hP hD hS (lv_sub hl [2, 3, 1, 0] rfl)
set_option maxHeartbeats 4000000 in
set_option maxRecDepth 100000 in
/-- model: where, wrong -/
theorem x_MD_where (l : Launch) (G : gG) (A : Nat → Nat) (hA9 : mJn A) (M : MS) (sz : Nat) (S : CS) (i : Int32) (hJ : J S S.1.length) (hR : MR M S) (hno9 : ¬ (0 ≤ i ∧ i < nI S.1.length)) : mI l y_MD_where w_MD_where ({ frames := 0, cells := 0, slots := 0, locals := 0 }) G (LM A) (mF G A M) sz [.ref (A 0), .int i] 0 0 (fun r u => r = 0 ∧ u = (LM A, mF G A (M.si 0 1))) := by
  refine pz_met (cc := prog_12_method_28_code) (maxL := 4) (ret := (some .int)) (by decide) rfl (Nat.le_of_ble_eq_true rfl) ?_
  intro p e s m below meth c ls hx hb hr hml hts hown hlocks hin hsz hK hP hD hS hA hz hl
  have htb : ∀ w ∈ TB, w.before _ s = true := fun w h => hts w (List.mem_cons_of_mem _ h)
  have hl : lv_has ls 4 [(0, .ref (A 0)), (1, .int i)] := hl
  have q1 : M.ct = nI S.1.length := hR.1.1.1
  refine lv_aload_n hx hb d_MD_where_0 rfl (lv_at hl 0 rfl) ?_
  refine lv_iload_n hx hb d_MD_where_1 rfl (lv_at hl 1 rfl) ?_
  refine lv_if_lt (tgt := 13) hx hb d_MD_where_2 (by decide) (fun c_1 => ?_) (fun c_1 => ?_)
  · refine lv_iconst (v := 1) hx hb d_MD_where_13 (by decide) ?_
    refine lv_goto (tgt := 18) hx hb d_MD_where_14 (by decide) ?_
    have h_2 : mF G A M (A 0) = .inr (10, [.int M.th, .ref (A 1), .ref (A 2), .ref (A 3), .ref (A 4), .ref (A 5), .int M.ct, .int M.ht, .int M.tp, .int M.gr, .ref (A 6), .ref (A 7), .ref (A 8), .ref (A 9), .ref (A 10), .ref (A 11), .ref (A 12), .int M.pg, .int M.bg, .int M.io, .int M.be, .int M.le, .long M.ln, .long M.dp, .ref (A 13), .long M.sh]) := mf_at hA9 M 0 (by decide)
    refine pz_put (ci := 10) (v := .int 1) (ty := .int) (C := "PageMakerModel") (T := T_MD) (N := 26) hx hb htb in_MD ty_MD to_MD nm_MD hown hK hP hD hS (lm_in (by decide)) h_2 rfl 0 (by decide) (htb _ tw_682) (fun _ h9 => h9) rfl rfl rfl rfl (Nat.le_of_ble_eq_true rfl) d_MD_where_18 (fun f3 H locs ef3 hP hD hS => ?_)
    have ef3 : f3 = va_up (mF G A M) (A 0) (.inr (10, [.int 1, .ref (A 1), .ref (A 2), .ref (A 3), .ref (A 4), .ref (A 5), .int M.ct, .int M.ht, .int M.tp, .int M.gr, .ref (A 6), .ref (A 7), .ref (A 8), .ref (A 9), .ref (A 10), .ref (A 11), .ref (A 12), .int M.pg, .int M.bg, .int M.io, .int M.be, .int M.le, .long M.ln, .long M.dp, .ref (A 13), .long M.sh])) := ef3
    have ef3 : f3 = mF G A (M.si 0 1) := ef3.trans (mf_o hA9 (M1 := M.si 0 1) rfl rfl)
    subst ef3
    refine lv_iconst (v := (-1)) hx hb d_MD_where_21 (by decide) ?_
    refine lv_istore_n (lv' := [(2, .int (-1)), (0, .ref (A 0)), (1, .int i)]) hx hb d_MD_where_22 rfl hl (by decide) rfl (fun ls hl => ?_)
    refine lv_iconst (v := 0) hx hb d_MD_where_23 (by decide) ?_
    refine lv_istore_n (lv' := [(3, .int 0), (2, .int (-1)), (0, .ref (A 0)), (1, .int i)]) hx hb d_MD_where_24 rfl hl (by decide) rfl (fun ls hl => ?_)
    refine lv_iload_n hx hb d_MD_where_25 rfl (lv_at hl 0 rfl) ?_
    refine lv_aload_n hx hb d_MD_where_26 rfl (lv_at hl 2 rfl) ?_
    have h_4 : mF G A (M.si 0 1) (A 0) = .inr (10, [.int 1, .ref (A 1), .ref (A 2), .ref (A 3), .ref (A 4), .ref (A 5), .int M.ct, .int M.ht, .int M.tp, .int M.gr, .ref (A 6), .ref (A 7), .ref (A 8), .ref (A 9), .ref (A 10), .ref (A 11), .ref (A 12), .int M.pg, .int M.bg, .int M.io, .int M.be, .int M.le, .long M.ln, .long M.dp, .ref (A 13), .long M.sh]) := mf_at hA9 (M.si 0 1) 0 (by decide)
    refine pz_get (ci := 10) (C := "PageMakerModel") (T := T_MD) (N := 26) hx hb htb in_MD hown hK hP (lm_in (by decide)) h_4 rfl 17 (by decide) (htb _ tw_699) (fun _ h9 => h9) rfl d_MD_where_27 ?_
    refine lv_icmp_ge (tgt := 72) hx hb d_MD_where_30 (by decide) (fun c_5 => ?_) (fun c_5 => ?_)
    · refine lv_aload_n hx hb d_MD_where_72 rfl (lv_at hl 2 rfl) ?_
      refine pz_get (ci := 10) (C := "PageMakerModel") (T := T_MD) (N := 26) hx hb htb in_MD hown hK hP (lm_in (by decide)) h_4 rfl 0 (by decide) (htb _ tw_682) (fun _ h9 => h9) rfl d_MD_where_73 ?_
      refine lv_if_le (tgt := 83) hx hb d_MD_where_76 (by decide) (fun c0 => absurd c0 (by decide)) (fun _ => ?_)
      refine lv_iconst (v := 0) hx hb d_MD_where_79 (by decide) ?_
      refine lv_goto (tgt := 84) hx hb d_MD_where_80 (by decide) ?_
      exact pz_iret hx hb hr rfl hlocks hK hP hD hS (Nat.le_of_ble_eq_true rfl) (Nat.le_of_ble_eq_true rfl) ⟨rfl, rfl⟩ d_MD_where_84
    · refine lv_aload_n hx hb d_MD_where_33 rfl (lv_at hl 2 rfl) ?_
      refine pz_get (ci := 10) (C := "PageMakerModel") (T := T_MD) (N := 26) hx hb htb in_MD hown hK hP (lm_in (by decide)) h_4 rfl 0 (by decide) (htb _ tw_682) (fun _ h9 => h9) rfl d_MD_where_34 ?_
      refine lv_if_ne (tgt := 72) hx hb d_MD_where_37 (by decide) (fun _ => ?_) (fun c0 => absurd c0 (by decide))
      refine lv_aload_n hx hb d_MD_where_72 rfl (lv_at hl 2 rfl) ?_
      refine pz_get (ci := 10) (C := "PageMakerModel") (T := T_MD) (N := 26) hx hb htb in_MD hown hK hP (lm_in (by decide)) h_4 rfl 0 (by decide) (htb _ tw_682) (fun _ h9 => h9) rfl d_MD_where_73 ?_
      refine lv_if_le (tgt := 83) hx hb d_MD_where_76 (by decide) (fun c0 => absurd c0 (by decide)) (fun _ => ?_)
      refine lv_iconst (v := 0) hx hb d_MD_where_79 (by decide) ?_
      refine lv_goto (tgt := 84) hx hb d_MD_where_80 (by decide) ?_
      exact pz_iret hx hb hr rfl hlocks hK hP hD hS (Nat.le_of_ble_eq_true rfl) (Nat.le_of_ble_eq_true rfl) ⟨rfl, rfl⟩ d_MD_where_84
  · refine lv_iload_n hx hb d_MD_where_5 rfl (lv_at hl 1 rfl) ?_
    refine lv_aload_n hx hb d_MD_where_6 rfl (lv_at hl 0 rfl) ?_
    have h_6 : mF G A M (A 0) = .inr (10, [.int M.th, .ref (A 1), .ref (A 2), .ref (A 3), .ref (A 4), .ref (A 5), .int M.ct, .int M.ht, .int M.tp, .int M.gr, .ref (A 6), .ref (A 7), .ref (A 8), .ref (A 9), .ref (A 10), .ref (A 11), .ref (A 12), .int M.pg, .int M.bg, .int M.io, .int M.be, .int M.le, .long M.ln, .long M.dp, .ref (A 13), .long M.sh]) := mf_at hA9 M 0 (by decide)
    refine pz_get (ci := 10) (C := "PageMakerModel") (T := T_MD) (N := 26) hx hb htb in_MD hown hK hP (lm_in (by decide)) h_6 rfl 6 (by decide) (htb _ tw_688) (fun _ h9 => h9) rfl d_MD_where_7 ?_
    refine lv_topi (fun x7 ex7 => ?_)
    have ex7 : x7 = nI S.1.length := ex7.trans (q1)
    subst ex7
    refine lv_icmp_lt (tgt := 17) hx hb d_MD_where_10 (by decide) (fun c_8 => ?_) (fun c_8 => ?_)
    · exact absurd ⟨i32_le c_1, c_8⟩ hno9
    · refine lv_iconst (v := 1) hx hb d_MD_where_13 (by decide) ?_
      refine lv_goto (tgt := 18) hx hb d_MD_where_14 (by decide) ?_
      refine pz_put (ci := 10) (v := .int 1) (ty := .int) (C := "PageMakerModel") (T := T_MD) (N := 26) hx hb htb in_MD ty_MD to_MD nm_MD hown hK hP hD hS (lm_in (by decide)) h_6 rfl 0 (by decide) (htb _ tw_682) (fun _ h9 => h9) rfl rfl rfl rfl (Nat.le_of_ble_eq_true rfl) d_MD_where_18 (fun f9 H locs ef9 hP hD hS => ?_)
      have ef9 : f9 = va_up (mF G A M) (A 0) (.inr (10, [.int 1, .ref (A 1), .ref (A 2), .ref (A 3), .ref (A 4), .ref (A 5), .int M.ct, .int M.ht, .int M.tp, .int M.gr, .ref (A 6), .ref (A 7), .ref (A 8), .ref (A 9), .ref (A 10), .ref (A 11), .ref (A 12), .int M.pg, .int M.bg, .int M.io, .int M.be, .int M.le, .long M.ln, .long M.dp, .ref (A 13), .long M.sh])) := ef9
      have ef9 : f9 = mF G A (M.si 0 1) := ef9.trans (mf_o hA9 (M1 := M.si 0 1) rfl rfl)
      subst ef9
      refine lv_iconst (v := (-1)) hx hb d_MD_where_21 (by decide) ?_
      refine lv_istore_n (lv' := [(2, .int (-1)), (0, .ref (A 0)), (1, .int i)]) hx hb d_MD_where_22 rfl hl (by decide) rfl (fun ls hl => ?_)
      refine lv_iconst (v := 0) hx hb d_MD_where_23 (by decide) ?_
      refine lv_istore_n (lv' := [(3, .int 0), (2, .int (-1)), (0, .ref (A 0)), (1, .int i)]) hx hb d_MD_where_24 rfl hl (by decide) rfl (fun ls hl => ?_)
      refine lv_iload_n hx hb d_MD_where_25 rfl (lv_at hl 0 rfl) ?_
      refine lv_aload_n hx hb d_MD_where_26 rfl (lv_at hl 2 rfl) ?_
      have h_10 : mF G A (M.si 0 1) (A 0) = .inr (10, [.int 1, .ref (A 1), .ref (A 2), .ref (A 3), .ref (A 4), .ref (A 5), .int M.ct, .int M.ht, .int M.tp, .int M.gr, .ref (A 6), .ref (A 7), .ref (A 8), .ref (A 9), .ref (A 10), .ref (A 11), .ref (A 12), .int M.pg, .int M.bg, .int M.io, .int M.be, .int M.le, .long M.ln, .long M.dp, .ref (A 13), .long M.sh]) := mf_at hA9 (M.si 0 1) 0 (by decide)
      refine pz_get (ci := 10) (C := "PageMakerModel") (T := T_MD) (N := 26) hx hb htb in_MD hown hK hP (lm_in (by decide)) h_10 rfl 17 (by decide) (htb _ tw_699) (fun _ h9 => h9) rfl d_MD_where_27 ?_
      refine lv_icmp_ge (tgt := 72) hx hb d_MD_where_30 (by decide) (fun c_11 => ?_) (fun c_11 => ?_)
      · refine lv_aload_n hx hb d_MD_where_72 rfl (lv_at hl 2 rfl) ?_
        refine pz_get (ci := 10) (C := "PageMakerModel") (T := T_MD) (N := 26) hx hb htb in_MD hown hK hP (lm_in (by decide)) h_10 rfl 0 (by decide) (htb _ tw_682) (fun _ h9 => h9) rfl d_MD_where_73 ?_
        refine lv_if_le (tgt := 83) hx hb d_MD_where_76 (by decide) (fun c0 => absurd c0 (by decide)) (fun _ => ?_)
        refine lv_iconst (v := 0) hx hb d_MD_where_79 (by decide) ?_
        refine lv_goto (tgt := 84) hx hb d_MD_where_80 (by decide) ?_
        exact pz_iret hx hb hr rfl hlocks hK hP hD hS (Nat.le_of_ble_eq_true rfl) (Nat.le_of_ble_eq_true rfl) ⟨rfl, rfl⟩ d_MD_where_84
      · refine lv_aload_n hx hb d_MD_where_33 rfl (lv_at hl 2 rfl) ?_
        refine pz_get (ci := 10) (C := "PageMakerModel") (T := T_MD) (N := 26) hx hb htb in_MD hown hK hP (lm_in (by decide)) h_10 rfl 0 (by decide) (htb _ tw_682) (fun _ h9 => h9) rfl d_MD_where_34 ?_
        refine lv_if_ne (tgt := 72) hx hb d_MD_where_37 (by decide) (fun _ => ?_) (fun c0 => absurd c0 (by decide))
        refine lv_aload_n hx hb d_MD_where_72 rfl (lv_at hl 2 rfl) ?_
        refine pz_get (ci := 10) (C := "PageMakerModel") (T := T_MD) (N := 26) hx hb htb in_MD hown hK hP (lm_in (by decide)) h_10 rfl 0 (by decide) (htb _ tw_682) (fun _ h9 => h9) rfl d_MD_where_73 ?_
        refine lv_if_le (tgt := 83) hx hb d_MD_where_76 (by decide) (fun c0 => absurd c0 (by decide)) (fun _ => ?_)
        refine lv_iconst (v := 0) hx hb d_MD_where_79 (by decide) ?_
        refine lv_goto (tgt := 84) hx hb d_MD_where_80 (by decide) ?_
        exact pz_iret hx hb hr rfl hlocks hK hP hD hS (Nat.le_of_ble_eq_true rfl) (Nat.le_of_ble_eq_true rfl) ⟨rfl, rfl⟩ d_MD_where_84
