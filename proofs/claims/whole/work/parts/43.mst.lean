/-! THE MODEL: stands -/
theorem prop_0 (p q : Int64) : k_prop p q 0 = 0 := if_pos (by decide)
theorem neg_00 : (-0 : Int64) = 0 := by decide
theorem st_zero {g : Pg} {T : Tt} {c0 : Int32} {ex tot : Int64} {gg : Nat → Int64} {sh : Int64} (h4 : g.2.2.2.2.2.1 = ex) (h6 : g.2.2.2.2.2.2.2 = tot) (ht : tot = k_tot gg sh ex) (h0 : ex = 0) : T.1 + T.2.1 + c0.toInt64 = st_v g T c0 := by
  have e : tot = 0 := by rw [ht, h0]; rfl
  unfold st_v sh_v
  rw [h4, h6, e, h0, if_neg (by decide), prop_0, neg_00, Int64.add_zero]
theorem st_tot0 {g : Pg} {T : Tt} {c0 : Int32} {tot : Int64} (h6 : g.2.2.2.2.2.2.2 = tot) (h0 : tot = 0) : T.1 + T.2.1 + c0.toInt64 = st_v g T c0 := by
  unfold st_v sh_v
  rw [h6, h0]
  split
  · rw [prop_0, Int64.add_zero]
  · rw [prop_0, neg_00, Int64.add_zero]
theorem lt_of_ne {ex : Int64} (h1 : ex ≤ 0) (h2 : ¬ ex = 0) : ex < 0 := by
  rw [Int64.le_iff_toInt_le, Int64.toInt_zero] at h1
  rw [Int64.lt_iff_toInt_lt, Int64.toInt_zero]
  rcases Int.lt_or_eq_of_le h1 with h3 | h3
  · exact h3
  · exact absurd (Int64.toInt_inj.mp (h3.trans Int64.toInt_zero.symm)) h2
theorem tot_neg {gg : Nat → Int64} {sh ex tot tt : Int64} (ht : tot = k_tot gg sh ex) (htt : tt = sh) (h1 : ex ≤ 0) (h2 : ¬ ex = 0) (h3 : tt = 0) : tot = 0 := by
  rw [ht, k_tot, if_neg (k_nlt h1), if_pos (lt_of_ne h1 h2), ← htt, h3]
theorem tn_ab {its : List It} {F : Fr} {a b : Nat} (hv : itsV its) (hn : its.length ≤ 512) (hab : a ≤ b) (hb : b ≤ its.length) : (∀ j, j < 4 → 0 ≤ ((t_list its F a b).2.2.2 j).toInt ∧ ((t_list its F a b).2.2.2 j).toInt ≤ 2 ^ 39) ∧ 0 ≤ (t_list its F a b).2.2.1.toInt ∧ (t_list its F a b).2.2.1.toInt ≤ 2 ^ 39 := by
  have h9 := tn_list (F := F) (a := a) hv hn (b - a) (by omega)
  rw [show a + (b - a) = b by omega] at h9
  have hm : ((b - a : Nat) : Int) * 2 ^ 30 ≤ 2 ^ 39 := by omega
  exact ⟨fun j hj => ⟨(h9.1 j hj).1, Int.le_trans (h9.1 j hj).2 hm⟩, h9.2.1, Int.le_trans h9.2.2 hm⟩
theorem pos_of {x : Int64} (h0 : 0 ≤ x.toInt) (h1 : ¬ x = 0) : 0 < x.toInt := by
  rcases Int.lt_or_eq_of_le h0 with h3 | h3
  · exact h3
  · exact absurd (Int64.toInt_inj.mp (h3.symm.trans Int64.toInt_zero.symm)) h1
theorem st_pos {its : List It} {F : Fr} {g : Pg} {a b i : Nat} {c0 od : Int32} {ex tot : Int64} {M2 : MS} (hv : itsV its) (hn : its.length ≤ 512) (hab : a < b) (hai : a ≤ i) (hib : i < b) (hbn : b ≤ its.length) (h4 : g.2.2.2.2.2.1 = ex) (h5 : g.2.2.2.2.2.2.1 = od) (h6 : g.2.2.2.2.2.2.2 = tot) (hod : od = k_ord (t_list its F a b).2.2.2 ex) (ht : tot = k_tot (t_list its F a b).2.2.2 (t_list its F a b).2.2.1 ex) (hT : TM M2 (t_list its F a i)) (h0 : 0 < ex) (hz : ¬ tot = 0) : (t_list its F a i).1 + (t_list its F a i).2.1 + c0.toInt64 + k_near ex (M2.g od.toNatClampNeg) tot = st_v g (t_list its F a i) c0 := by
  have ho4 : od.toNatClampNeg < 4 := Nat.not_le.mp fun q => (by rw [hod]; exact vp_ord _ _ : vp_in od 4) (Or.inr q)
  have e1 := hT.2.2.2 _ ho4
  have b1 := (tn_ab (F := F) hv hn hai (by omega)).1 _ ho4
  have e2 : tot = (t_list its F a b).2.2.2 (k_go (t_list its F a b).2.2.2).toNatClampNeg := by rw [ht, k_tot, if_pos h0]
  have b2 := (tn_ab (F := F) hv hn (Nat.le_of_lt hab) hbn).1 _ (Nat.not_le.mp fun q => vp_go (t_list its F a b).2.2.2 (Or.inr q))
  rw [← e2] at b2
  have h0' := h0
  rw [Int64.lt_iff_toInt_lt, Int64.toInt_zero] at h0'
  unfold st_v sh_v
  rw [h4, h5, h6, if_pos h0, e1, near_prop (by omega) b1.1 (by omega) (pos_of b2.1 hz) (by omega)]
theorem st_neg {its : List It} {F : Fr} {g : Pg} {a b i : Nat} {c0 : Int32} {ex tot tt x : Int64} (hF : FV F) (hex : ex = F.1.toInt64 - (t_list its F a b).1) (hv : itsV its) (hn : its.length ≤ 512) (hab : a < b) (hai : a ≤ i) (hib : i < b) (hbn : b ≤ its.length) (h4 : g.2.2.2.2.2.1 = ex) (h6 : g.2.2.2.2.2.2.2 = tot) (ht : tot = k_tot (t_list its F a b).2.2.2 (t_list its F a b).2.2.1 ex) (htt : tt = (t_list its F a b).2.2.1) (h0 : ex ≤ 0) (h1 : ¬ ex = 0) (hz : ¬ tt = 0) (hx : (x = tt ∧ tt ≤ -ex) ∨ (x = -ex ∧ -ex < tt)) : (t_list its F a i).1 + (t_list its F a i).2.1 + c0.toInt64 - k_near x (t_list its F a i).2.2.1 tt = st_v g (t_list its F a i) c0 := by
  have b1 := (tn_ab (F := F) hv hn hai (by omega)).2
  have b2 := (tn_ab (F := F) hv hn (Nat.le_of_lt hab) hbn).2
  rw [← htt] at b2
  have e2 : tot = tt := by rw [ht, k_tot, if_neg (k_nlt h0), if_pos (lt_of_ne h0 h1), htt]
  have hxn : 0 ≤ x.toInt := by
    rcases hx with ⟨rfl, -⟩ | ⟨rfl, h9⟩
    · exact b2.1
    · rw [Int64.lt_iff_toInt_lt] at h9
      have h8 := Int64.toInt_neg ex
      have h7 := Int64.le_toInt ex
      rw [Int64.le_iff_toInt_le, Int64.toInt_zero] at h0
      have h5 := tl_list (a := a) hF hv hn (b - a) (by omega)
      rw [show a + (b - a) = b by omega] at h5
      have h6 := h5.1
      have h3 := hF.1
      rw [k_isZ, Int32.le_iff_toInt_le, Int32.le_iff_toInt_le, Int32.toInt_zero, show (1073741823 : Int32).toInt = 1073741823 by decide] at h3
      have hx9 : ex.toInt = F.1.toInt - (t_list its F a b).1.toInt := by
        rw [hex, n64_sub (by rw [Int32.toInt_toInt64]; omega) (by rw [Int32.toInt_toInt64]; omega), Int32.toInt_toInt64]
      rw [h8, Int.bmod_eq_of_le (by omega) (by omega)]
      omega
  have hxe : x = (if tt < -ex then tt else -ex) := by
    rcases hx with ⟨rfl, h9⟩ | ⟨rfl, h9⟩
    · split
      · rfl
      · next n => exact Int64.le_antisymm h9 (by rw [Int64.lt_iff_toInt_lt] at n; rw [Int64.le_iff_toInt_le]; omega)
    · rw [if_neg (pz_ltN h9).1]
  unfold st_v sh_v
  rw [h4, h6, e2, if_neg (k_nlt h0), ← hxe, near_prop hxn b1.1 (by omega) (pos_of b2.1 hz) (by omega), Int64.sub_eq_add_neg]
theorem i32_pos {a : Nat} {i : Int32} (h : nI a ≤ i) (ha : a < 2 ^ 31) : 0 ≤ i := by
  have h1 := nI_pos' ha
  rw [Int32.le_iff_toInt_le] at *
  omega
set_option maxHeartbeats 4000000 in
set_option maxRecDepth 100000 in
/-- model: stands(k, i) -/
theorem c_MD_stands (l : Launch) (G : gG) (A : Nat → Nat) (hA9 : mJn A) (M : MS) (sz : Nat) (S : CS) (k a b i : Nat) (c0 c1 : Int32) (hJ : J S S.1.length) (hR : MR M S) (pg : Fr × Pg) (hp9 : S.2.2.1[k]? = some pg) (hG : PG S.1 pg a b) (hai : a ≤ i) (hib : i < b) (hi9 : S.1[i]? = some (.inl (c0, c1))) : mJ l y_MD_stands w_MD_stands ({ frames := 2, cells := 0, slots := 0, locals := 45 }) G (LM A) (mF G A M) sz [.ref (A 0), .int (nI k), .int (nI i)] 0 0 (fun r u => ∃ M1, u = (LM A, mF G A M1) ∧ r = st_v pg.2 (t_list S.1 pg.1 a i) c0 ∧ MR M1 S ∧ M1.th = 0) := by
  refine pz_met (cc := prog_12_method_27_code) (maxL := 11) (ret := (some .long)) (by decide) rfl (Nat.le_of_ble_eq_true rfl) ?_
  intro p e s m below meth c ls hx hb hr hml hts hown hlocks hin hsz hK hP hD hS hA hz hl
  have htb : ∀ w ∈ TB, w.before _ s = true := fun w h => hts w (List.mem_cons_of_mem _ h)
  have hl : lv_has ls 11 [(0, .ref (A 0)), (1, .int (nI k)), (2, .int (nI i))] := hl
  have hn5 : S.1.length ≤ 512 := hJ.2.1
  have hp5 : S.2.2.1.length ≤ 512 := j_pgs hJ
  have hk1 : k < S.2.2.1.length := (List.getElem?_eq_some_iff.mp hp9).1
  have q5 : M.pg = nI S.2.2.1.length := hR.1.2.2.2.2.1
  obtain ⟨m6, m7, m8, m9, m10, m11, m12⟩ := hR.1.2.2.2.2.2 k pg hp9
  obtain ⟨hab, hbn, ⟨b0, b1, hbx⟩, g1, g2, g3, g4, g5, g6, hF⟩ := id hG
  obtain ⟨him, -⟩ := hR.1.1.2.2 i _ hi9
  have him : itM M.r i (.inl (c0, c1)) := him
  refine lv_iload_n hx hb d_MD_stands_0 rfl (lv_at hl 1 rfl) ?_
  refine lv_if_lt (tgt := 45) hx hb d_MD_stands_1 (by decide) (fun c0 => absurd c0 (nI_pos (by omega))) (fun _ => ?_)
  refine lv_iload_n hx hb d_MD_stands_4 rfl (lv_at hl 1 rfl) ?_
  refine lv_aload_n hx hb d_MD_stands_5 rfl (lv_at hl 0 rfl) ?_
  have h_1 : mF G A M (A 0) = .inr (10, [.int M.th, .ref (A 1), .ref (A 2), .ref (A 3), .ref (A 4), .ref (A 5), .int M.ct, .int M.ht, .int M.tp, .int M.gr, .ref (A 6), .ref (A 7), .ref (A 8), .ref (A 9), .ref (A 10), .ref (A 11), .ref (A 12), .int M.pg, .int M.bg, .int M.io, .int M.be, .int M.le, .long M.ln, .long M.dp, .ref (A 13), .long M.sh]) := mf_at hA9 M 0 (by decide)
  refine pz_get (ci := 10) (C := "PageMakerModel") (T := T_MD) (N := 26) hx hb htb in_MD hown hK hP (lm_in (by decide)) h_1 rfl 17 (by decide) (htb _ tw_699) (fun _ h9 => h9) rfl d_MD_stands_6 ?_
  refine lv_topi (fun x2 ex2 => ?_)
  have ex2 : x2 = nI S.2.2.1.length := ex2.trans (q5)
  subst ex2
  refine lv_icmp_ge (tgt := 45) hx hb d_MD_stands_9 (by decide) (fun c0 => absurd c0 (nI_ge (by omega) (by omega))) (fun _ => ?_)
  refine lv_iload_n hx hb d_MD_stands_12 rfl (lv_at hl 2 rfl) ?_
  refine lv_aload_n hx hb d_MD_stands_13 rfl (lv_at hl 0 rfl) ?_
  refine pz_get (ci := 10) (C := "PageMakerModel") (T := T_MD) (N := 26) hx hb htb in_MD hown hK hP (lm_in (by decide)) h_1 rfl 13 (by decide) (htb _ tw_695) (fun _ h9 => h9) rfl d_MD_stands_14 ?_
  refine lv_iload_n hx hb d_MD_stands_17 rfl (lv_at hl 1 rfl) ?_
  have h_3 : mF G A M (A 9) = .inl (cI G, 2001, .inl M.fs) := mf_at hA9 M 9 (by decide)
  refine pz_iald (j := k) hx hb hK hP 0 (lm_in (by decide)) h_3 rfl (by omega) (by decide) d_MD_stands_18 ?_
  refine lv_topi (fun x4 ex4 => ?_)
  have ex4 : x4 = nI a := ex4.trans ((m9.trans g1))
  subst ex4
  refine lv_icmp_lt (tgt := 45) hx hb d_MD_stands_19 (by decide) (fun c0 => absurd c0 (nI_nlt (by omega) (by omega))) (fun _ => ?_)
  refine lv_iload_n hx hb d_MD_stands_22 rfl (lv_at hl 2 rfl) ?_
  refine lv_aload_n hx hb d_MD_stands_23 rfl (lv_at hl 0 rfl) ?_
  refine pz_get (ci := 10) (C := "PageMakerModel") (T := T_MD) (N := 26) hx hb htb in_MD hown hK hP (lm_in (by decide)) h_1 rfl 14 (by decide) (htb _ tw_696) (fun _ h9 => h9) rfl d_MD_stands_24 ?_
  refine lv_iload_n hx hb d_MD_stands_27 rfl (lv_at hl 1 rfl) ?_
  have h_5 : mF G A M (A 10) = .inl (cI G, 2001, .inl M.es) := mf_at hA9 M 10 (by decide)
  refine pz_iald (j := k) hx hb hK hP 0 (lm_in (by decide)) h_5 rfl (by omega) (by decide) d_MD_stands_28 ?_
  refine lv_topi (fun x6 ex6 => ?_)
  have ex6 : x6 = nI b := ex6.trans ((m10.trans g2))
  subst ex6
  refine lv_icmp_ge (tgt := 45) hx hb d_MD_stands_29 (by decide) (fun c0 => absurd c0 (nI_ge (by omega) (by omega))) (fun _ => ?_)
  refine lv_aload_n hx hb d_MD_stands_32 rfl (lv_at hl 0 rfl) ?_
  refine pz_get (ci := 10) (C := "PageMakerModel") (T := T_MD) (N := 26) hx hb htb in_MD hown hK hP (lm_in (by decide)) h_1 rfl 1 (by decide) (htb _ tw_683) (fun _ h9 => h9) rfl d_MD_stands_33 ?_
  refine lv_iload_n hx hb d_MD_stands_36 rfl (lv_at hl 2 rfl) ?_
  have h_7 : mF G A M (A 1) = .inl (cI G, 2000, .inl M.kd) := mf_at hA9 M 1 (by decide)
  refine pz_iald (j := i) hx hb hK hP 0 (lm_in (by decide)) h_7 rfl (by omega) (by decide) d_MD_stands_37 ?_
  refine lv_topi (fun x8 ex8 => ?_)
  have ex8 : x8 = 0 := ex8.trans (him.1)
  subst ex8
  refine lv_if_ne (tgt := 45) hx hb d_MD_stands_38 (by decide) (fun c0 => absurd c0 (by decide)) (fun _ => ?_)
  refine lv_iconst (v := 1) hx hb d_MD_stands_41 (by decide) ?_
  refine lv_goto (tgt := 46) hx hb d_MD_stands_42 (by decide) ?_
  refine lv_istore_n (lv' := [(3, .int 1), (0, .ref (A 0)), (1, .int (nI k)), (2, .int (nI i))]) hx hb d_MD_stands_46 rfl hl (by decide) rfl (fun ls hl => ?_)
  refine lv_aload_n hx hb d_MD_stands_47 rfl (lv_at hl 1 rfl) ?_
  refine lv_iload_n hx hb d_MD_stands_48 rfl (lv_at hl 0 rfl) ?_
  refine lv_if_eq (tgt := 56) hx hb d_MD_stands_49 (by decide) (fun c0 => absurd c0 (by decide)) (fun _ => ?_)
  refine lv_iconst (v := 0) hx hb d_MD_stands_52 (by decide) ?_
  refine lv_goto (tgt := 57) hx hb d_MD_stands_53 (by decide) ?_
  refine pz_put (ci := 10) (v := .int 0) (ty := .int) (C := "PageMakerModel") (T := T_MD) (N := 26) hx hb htb in_MD ty_MD to_MD nm_MD hown hK hP hD hS (lm_in (by decide)) h_1 rfl 0 (by decide) (htb _ tw_682) (fun _ h9 => h9) rfl rfl rfl rfl (Nat.le_of_ble_eq_true rfl) d_MD_stands_57 (fun f9 H locs ef9 hP hD hS => ?_)
  have ef9 : f9 = va_up (mF G A M) (A 0) (.inr (10, [.int 0, .ref (A 1), .ref (A 2), .ref (A 3), .ref (A 4), .ref (A 5), .int M.ct, .int M.ht, .int M.tp, .int M.gr, .ref (A 6), .ref (A 7), .ref (A 8), .ref (A 9), .ref (A 10), .ref (A 11), .ref (A 12), .int M.pg, .int M.bg, .int M.io, .int M.be, .int M.le, .long M.ln, .long M.dp, .ref (A 13), .long M.sh])) := ef9
  have ef9 : f9 = mF G A (M.si 0 0) := ef9.trans (mf_o hA9 (M1 := M.si 0 0) rfl rfl)
  subst ef9
  refine lv_iload_n hx hb d_MD_stands_60 rfl (lv_at hl 0 rfl) ?_
  refine lv_if_ne (tgt := 66) hx hb d_MD_stands_61 (by decide) (fun _ => ?_) (fun c0 => absurd c0 (by decide))
  refine lv_aload_n hx hb d_MD_stands_66 rfl (lv_at hl 1 rfl) ?_
  refine lv_iload_n hx hb d_MD_stands_67 rfl (lv_at hl 2 rfl) ?_
  refine lv_aload_n hx hb d_MD_stands_68 rfl (lv_at hl 1 rfl) ?_
  have h_10 : mF G A (M.si 0 0) (A 0) = .inr (10, [.int 0, .ref (A 1), .ref (A 2), .ref (A 3), .ref (A 4), .ref (A 5), .int M.ct, .int M.ht, .int M.tp, .int M.gr, .ref (A 6), .ref (A 7), .ref (A 8), .ref (A 9), .ref (A 10), .ref (A 11), .ref (A 12), .int M.pg, .int M.bg, .int M.io, .int M.be, .int M.le, .long M.ln, .long M.dp, .ref (A 13), .long M.sh]) := mf_at hA9 (M.si 0 0) 0 (by decide)
  refine pz_get (ci := 10) (C := "PageMakerModel") (T := T_MD) (N := 26) hx hb htb in_MD hown hK hP (lm_in (by decide)) h_10 rfl 14 (by decide) (htb _ tw_696) (fun _ h9 => h9) rfl d_MD_stands_69 ?_
  refine lv_iload_n hx hb d_MD_stands_72 rfl (lv_at hl 2 rfl) ?_
  have h_11 : mF G A (M.si 0 0) (A 10) = .inl (cI G, 2001, .inl M.es) := mf_at hA9 (M.si 0 0) 10 (by decide)
  refine pz_iald (j := k) hx hb hK hP 0 (lm_in (by decide)) h_11 rfl (by omega) (by decide) d_MD_stands_73 ?_
  refine lv_topi (fun x12 ex12 => ?_)
  have ex12 : x12 = nI b := ex12.trans ((m10.trans g2))
  subst ex12
  refine pz_cv (va_runV (As := [.int (nI k), .int (nI b)]) (rest := []) ⟨hx, hb, hml, hown, hts⟩ (c_MD_addUpTo l G A hA9 (M.si 0 0) _ S.1 pg.1 k a b b0 b1 (by omega) hR.1.1 ⟨m6, m7, m8, m9.trans g1⟩ hbx (by omega) hbn) (cwV 2 hts (tb_V tw_856 tw_858 tp_23 tw_8 tw_859) rfl rfl rfl (by decide +kernel) ⟨(Nat.le_of_ble_eq_true rfl), (Nat.le_of_ble_eq_true rfl)⟩) (pz_preV (zz_ok _ _ _) hK hP hD hS hA hz (ci := 10) rfl rfl (lm_in (by decide)) h_10) rfl rfl hl.1 rfl (lv_room (Nat.le_of_ble_eq_true rfl)) d_MD_stands_74 ⟨(Nat.le_of_ble_eq_true rfl), (Nat.le_of_ble_eq_true rfl)⟩) hP hD hS hA (fun L8 f8 H locs hw hP hD hS => ?_)
  obtain ⟨M1, hu, hmk, htm⟩ := hw
  have eL8 : L8 = LM A := (Prod.mk.inj hu).1
  have ef8 : f8 = mF G A M1 := (Prod.mk.inj hu).2
  subst eL8
  subst ef8
  have hR1 : MR M1 S := mr_ir hmk.1 hmk.2 (mr_th hR)
  have r1 : ∀ c i, M1.r c i = M.r c i := fun c i => congrFun (congrFun hmk.2 c) i
  refine lv_aload_n hx hb d_MD_stands_77 rfl (lv_at hl 1 rfl) ?_
  have h_13 : mF G A M1 (A 0) = .inr (10, [.int M1.th, .ref (A 1), .ref (A 2), .ref (A 3), .ref (A 4), .ref (A 5), .int M1.ct, .int M1.ht, .int M1.tp, .int M1.gr, .ref (A 6), .ref (A 7), .ref (A 8), .ref (A 9), .ref (A 10), .ref (A 11), .ref (A 12), .int M1.pg, .int M1.bg, .int M1.io, .int M1.be, .int M1.le, .long M1.ln, .long M1.dp, .ref (A 13), .long M1.sh]) := mf_at hA9 M1 0 (by decide)
  refine pz_get (ci := 10) (C := "PageMakerModel") (T := T_MD) (N := 26) hx hb htb in_MD hown hK hP (lm_in (by decide)) h_13 rfl 10 (by decide) (htb _ tw_692) (fun _ h9 => h9) rfl d_MD_stands_78 ?_
  refine lv_iload_n hx hb d_MD_stands_81 rfl (lv_at hl 2 rfl) ?_
  have h_14 : mF G A M1 (A 6) = .inl (cI G, 2001, .inl M1.hs) := mf_at hA9 M1 6 (by decide)
  refine pz_iald (j := k) hx hb hK hP 0 (lm_in (by decide)) h_14 rfl (by omega) (by decide) d_MD_stands_82 ?_
  refine lv_topi (fun x15 ex15 => ?_)
  have ex15 : x15 = pg.1.1 := ex15.trans (((r1 6 k).trans m6))
  subst ex15
  refine lv_i2l hx hb d_MD_stands_83 rfl ?_
  refine lv_aload_n hx hb d_MD_stands_84 rfl (lv_at hl 1 rfl) ?_
  refine pz_get (ci := 10) (C := "PageMakerModel") (T := T_MD) (N := 26) hx hb htb in_MD hown hK hP (lm_in (by decide)) h_13 rfl 22 (by decide) (htb _ tw_704) (fun _ h9 => h9) rfl d_MD_stands_85 ?_
  refine lv_topl (fun x16 ex16 => ?_)
  have ex16 : x16 = (t_list S.1 pg.1 a b).1 := ex16.trans (htm.1)
  subst ex16
  refine lv_lsub hx hb d_MD_stands_88 ?_
  obtain ⟨ex, hex⟩ : ∃ ex, ex = pg.1.1.toInt64 - (t_list S.1 pg.1 a b).1 := ⟨_, rfl⟩
  refine lv_topl (fun x17 ex17 => ?_)
  have ex17 : x17 = ex := ex17.trans (hex.symm)
  rw [ex17]
  rw [← hex] at g4 g5 g6
  refine lv_lstore (lv' := [(4, .long ex), (3, .int 1), (0, .ref (A 0)), (1, .int (nI k)), (2, .int (nI i))]) hx hb d_MD_stands_89 hl (by decide) rfl (fun ls hl => ?_)
  refine lv_aload_n hx hb d_MD_stands_91 rfl (lv_at hl 2 rfl) ?_
  refine lv_lload hx hb d_MD_stands_92 (lv_at hl 0 rfl) ?_
  refine vp_callSi (va_Run.run (va_runV (As := [.long ex]) (rest := []) ⟨hx, hb, hml, hown, hts⟩ (c_MD_orderOf l G A hA9 M1 _ ex) (cwV 1 hts (tb_V tw_860 tw_862 tp_24 tw_8 tw_863) rfl rfl rfl (by decide +kernel) ⟨(Nat.le_of_ble_eq_true rfl), (Nat.le_of_ble_eq_true rfl)⟩) (pz_preV (zz_ok _ _ _) hK hP hD hS hA hz (ci := 10) rfl rfl (lm_in (by decide)) h_13) rfl rfl hl.1 rfl (lv_room (Nat.le_of_ble_eq_true rfl)) d_MD_stands_94 ⟨(Nat.le_of_ble_eq_true rfl), (Nat.le_of_ble_eq_true rfl)⟩)) (fun r18 hw => ?_)
  have hw : r18 = (k_ord M1.g ex) := hw
  subst r18
  obtain ⟨od, hod⟩ : ∃ od, od = k_ord (t_list S.1 pg.1 a b).2.2.2 ex := ⟨_, rfl⟩
  refine lv_topi (fun x19 ex19 => ?_)
  have ex19 : x19 = od := ex19.trans ((ord_tm htm ex).trans hod.symm)
  rw [ex19]
  have hod4 : vp_in od 4 := by rw [hod]; exact vp_ord _ _
  rw [← hod] at g5
  refine lv_istore (lv' := [(6, .int od), (4, .long ex), (3, .int 1), (0, .ref (A 0)), (1, .int (nI k)), (2, .int (nI i))]) hx hb d_MD_stands_97 hl (by decide) rfl (fun ls hl => ?_)
  refine lv_lload hx hb d_MD_stands_99 (lv_at hl 1 rfl) ?_
  refine lv_lconst (v := 0) hx hb d_MD_stands_101 rfl ?_
  refine pz_lle (tgt := 116) hx hb d_MD_stands_102 d_MD_stands_103 (by decide) (fun c_20 => ?_) (fun c_20 => ?_)
  · refine lv_aload_n hx hb d_MD_stands_116 rfl (lv_at hl 3 rfl) ?_
    refine pz_get (ci := 10) (C := "PageMakerModel") (T := T_MD) (N := 26) hx hb htb in_MD hown hK hP (lm_in (by decide)) h_13 rfl 25 (by decide) (htb _ tw_707) (fun _ h9 => h9) rfl d_MD_stands_117 ?_
    obtain ⟨tot, htot⟩ : ∃ tot, tot = k_tot (t_list S.1 pg.1 a b).2.2.2 (t_list S.1 pg.1 a b).2.2.1 ex := ⟨_, rfl⟩
    obtain ⟨tt, htt⟩ : ∃ tt, tt = (t_list S.1 pg.1 a b).2.2.1 := ⟨_, rfl⟩
    refine lv_topl (fun x21 ex21 => ?_)
    have ex21 : x21 = tt := ex21.trans (htm.2.2.1.trans htt.symm)
    rw [ex21]
    rw [← htot] at g6
    refine lv_lstore (lv' := [(7, .long tt), (6, .int od), (4, .long ex), (3, .int 1), (0, .ref (A 0)), (1, .int (nI k)), (2, .int (nI i))]) hx hb d_MD_stands_120 hl (by decide) rfl (fun ls hl => ?_)
    refine lv_aload_n hx hb d_MD_stands_122 rfl (lv_at hl 4 rfl) ?_
    refine lv_iload_n hx hb d_MD_stands_123 rfl (lv_at hl 5 rfl) ?_
    refine lv_iload_n hx hb d_MD_stands_124 rfl (lv_at hl 6 rfl) ?_
    refine pz_cv (va_runV (As := [.int (nI k), .int (nI i)]) (rest := []) ⟨hx, hb, hml, hown, hts⟩ (c_MD_addUpTo l G A hA9 M1 _ S.1 pg.1 k a i b0 b1 (by omega) hR1.1.1 ⟨(r1 6 k).trans m6, (r1 7 k).trans m7, (r1 8 k).trans m8, (r1 9 k).trans (m9.trans g1)⟩ hbx hai (by omega)) (cwV 2 hts (tb_V tw_856 tw_858 tp_23 tw_8 tw_859) rfl rfl rfl (by decide +kernel) ⟨(Nat.le_of_ble_eq_true rfl), (Nat.le_of_ble_eq_true rfl)⟩) (pz_preV (zz_ok _ _ _) hK hP hD hS hA hz (ci := 10) rfl rfl (lm_in (by decide)) h_13) rfl rfl hl.1 rfl (lv_room (Nat.le_of_ble_eq_true rfl)) d_MD_stands_125 ⟨(Nat.le_of_ble_eq_true rfl), (Nat.le_of_ble_eq_true rfl)⟩) hP hD hS hA (fun L8 f8 H locs hw hP hD hS => ?_)
    obtain ⟨M2, hu, hmk2, htm2⟩ := hw
    have eL8 : L8 = LM A := (Prod.mk.inj hu).1
    have ef8 : f8 = mF G A M2 := (Prod.mk.inj hu).2
    subst eL8
    subst ef8
    have hR2 : MR M2 S := mr_ir hmk2.1 hmk2.2 hR1
    have hth2 : M2.th = 0 := (congrFun hmk2.1 0).trans (congrFun hmk.1 0)
    refine lv_aload_n hx hb d_MD_stands_128 rfl (lv_at hl 4 rfl) ?_
    have h_22 : mF G A M2 (A 0) = .inr (10, [.int M2.th, .ref (A 1), .ref (A 2), .ref (A 3), .ref (A 4), .ref (A 5), .int M2.ct, .int M2.ht, .int M2.tp, .int M2.gr, .ref (A 6), .ref (A 7), .ref (A 8), .ref (A 9), .ref (A 10), .ref (A 11), .ref (A 12), .int M2.pg, .int M2.bg, .int M2.io, .int M2.be, .int M2.le, .long M2.ln, .long M2.dp, .ref (A 13), .long M2.sh]) := mf_at hA9 M2 0 (by decide)
    refine pz_get (ci := 10) (C := "PageMakerModel") (T := T_MD) (N := 26) hx hb htb in_MD hown hK hP (lm_in (by decide)) h_22 rfl 22 (by decide) (htb _ tw_704) (fun _ h9 => h9) rfl d_MD_stands_129 ?_
    refine lv_topl (fun x23 ex23 => ?_)
    have ex23 : x23 = (t_list S.1 pg.1 a i).1 := ex23.trans (htm2.1)
    subst ex23
    refine lv_aload_n hx hb d_MD_stands_132 rfl (lv_at hl 4 rfl) ?_
    refine pz_get (ci := 10) (C := "PageMakerModel") (T := T_MD) (N := 26) hx hb htb in_MD hown hK hP (lm_in (by decide)) h_22 rfl 23 (by decide) (htb _ tw_705) (fun _ h9 => h9) rfl d_MD_stands_133 ?_
    refine lv_topl (fun x24 ex24 => ?_)
    have ex24 : x24 = (t_list S.1 pg.1 a i).2.1 := ex24.trans (htm2.2.1)
    subst ex24
    refine lv_ladd hx hb d_MD_stands_136 ?_
    refine lv_aload_n hx hb d_MD_stands_137 rfl (lv_at hl 4 rfl) ?_
    refine pz_get (ci := 10) (C := "PageMakerModel") (T := T_MD) (N := 26) hx hb htb in_MD hown hK hP (lm_in (by decide)) h_22 rfl 3 (by decide) (htb _ tw_685) (fun _ h9 => h9) rfl d_MD_stands_138 ?_
    refine lv_iload_n hx hb d_MD_stands_141 rfl (lv_at hl 6 rfl) ?_
    have h_25 : mF G A M2 (A 3) = .inl (cI G, 2000, .inl M2.tw) := mf_at hA9 M2 3 (by decide)
    refine pz_iald (j := i) hx hb hK hP 0 (lm_in (by decide)) h_25 rfl (by omega) (by decide) d_MD_stands_142 ?_
    refine lv_topi (fun x26 ex26 => ?_)
    have ex26 : x26 = c0 := ex26.trans (((congrFun (congrFun hmk2.2 3) i).trans ((r1 3 i).trans him.2.1)))
    rw [ex26]
    refine lv_i2l hx hb d_MD_stands_143 rfl ?_
    refine lv_ladd hx hb d_MD_stands_144 ?_
    refine lv_lstore (lv' := [(9, .long (((t_list S.1 pg.1 a i).1 + (t_list S.1 pg.1 a i).2.1) + c0.toInt64)), (7, .long tt), (6, .int od), (4, .long ex), (3, .int 1), (0, .ref (A 0)), (1, .int (nI k)), (2, .int (nI i))]) hx hb d_MD_stands_145 hl (by decide) rfl (fun ls hl => ?_)
    refine lv_lload hx hb d_MD_stands_147 (lv_at hl 3 rfl) ?_
    refine lv_lconst (v := 0) hx hb d_MD_stands_149 rfl ?_
    refine pz_leq (tgt := 161) hx hb d_MD_stands_150 d_MD_stands_151 (by decide) (fun c_27 => ?_) (fun c_27 => ?_)
    · refine lv_lload hx hb d_MD_stands_161 (lv_at hl 0 rfl) ?_
      exact pz_lret hx hb hr hlocks hK hP hD hS (Nat.le_of_ble_eq_true rfl) (Nat.le_of_ble_eq_true rfl) ⟨M2, rfl, (st_zero g4 g6 htot c_27), hR2, hth2⟩ d_MD_stands_163
    · refine lv_lload hx hb d_MD_stands_154 (lv_at hl 1 rfl) ?_
      refine lv_lconst (v := 0) hx hb d_MD_stands_156 rfl ?_
      refine pz_lne (tgt := 164) hx hb d_MD_stands_157 d_MD_stands_158 (by decide) (fun c_28 => ?_) (fun c_28 => ?_)
      · refine lv_lload hx hb d_MD_stands_164 (lv_at hl 3 rfl) ?_
        refine lv_lconst (v := 0) hx hb d_MD_stands_166 rfl ?_
        refine pz_lle (tgt := 189) hx hb d_MD_stands_167 d_MD_stands_168 (by decide) (fun c_29 => ?_) (fun c_29 => ?_)
        · refine lv_lload hx hb d_MD_stands_189 (lv_at hl 0 rfl) ?_
          refine lv_lload hx hb d_MD_stands_191 (lv_at hl 3 rfl) ?_
          refine lv_lneg hx hb d_MD_stands_193 ?_
          refine lv_lload hx hb d_MD_stands_194 (lv_at hl 1 rfl) ?_
          refine pz_lge (tgt := 206) hx hb d_MD_stands_196 d_MD_stands_197 (by decide) (fun c_30 => ?_) (fun c_30 => ?_)
          · refine lv_lload hx hb d_MD_stands_206 (lv_at hl 1 rfl) ?_
            refine lv_aload_n hx hb d_MD_stands_208 rfl (lv_at hl 5 rfl) ?_
            refine pz_get (ci := 10) (C := "PageMakerModel") (T := T_MD) (N := 26) hx hb htb in_MD hown hK hP (lm_in (by decide)) h_22 rfl 25 (by decide) (htb _ tw_707) (fun _ h9 => h9) rfl d_MD_stands_209 ?_
            refine lv_topl (fun x31 ex31 => ?_)
            have ex31 : x31 = (t_list S.1 pg.1 a i).2.2.1 := ex31.trans (htm2.2.2.1)
            subst ex31
            refine lv_lload hx hb d_MD_stands_212 (lv_at hl 1 rfl) ?_
            refine vp_callSl (va_Run.run (va_runS (As := [.long tt, .long ((t_list S.1 pg.1 a i).2.2.1), .long tt]) (rest := [.long (((t_list S.1 pg.1 a i).1 + (t_list S.1 pg.1 a i).2.1) + c0.toInt64)]) ⟨hx, hb, hml, hown, hts⟩ (c_MD_nearest l tt (t_list S.1 pg.1 a i).2.2.1 tt c_28) (cwS 3 hts (tb_S tw_868 tw_869 tw_8 tw_870) rfl rfl rfl (by decide +kernel) ⟨(Nat.le_of_ble_eq_true rfl), (Nat.le_of_ble_eq_true rfl)⟩) pz_preP rfl rfl hl.1 rfl (lv_room (Nat.le_of_ble_eq_true rfl)) d_MD_stands_214 ⟨(Nat.le_of_ble_eq_true rfl), (Nat.le_of_ble_eq_true rfl)⟩)) (fun r32 hw => ?_)
            have hw : r32 = (k_near tt (t_list S.1 pg.1 a i).2.2.1 tt) := hw
            subst r32
            refine lv_lsub hx hb d_MD_stands_217 ?_
            exact pz_lret hx hb hr hlocks hK hP hD hS (Nat.le_of_ble_eq_true rfl) (Nat.le_of_ble_eq_true rfl) ⟨M2, rfl, (st_neg hF hex hJ.1 hn5 hab hai hib hbn g4 g6 htot htt c_20 c_27 c_28 (Or.inl ⟨rfl, c_30⟩)), hR2, hth2⟩ d_MD_stands_218
          · refine lv_lload hx hb d_MD_stands_200 (lv_at hl 3 rfl) ?_
            refine lv_lneg hx hb d_MD_stands_202 ?_
            refine lv_goto (tgt := 208) hx hb d_MD_stands_203 (by decide) ?_
            refine lv_aload_n hx hb d_MD_stands_208 rfl (lv_at hl 5 rfl) ?_
            refine pz_get (ci := 10) (C := "PageMakerModel") (T := T_MD) (N := 26) hx hb htb in_MD hown hK hP (lm_in (by decide)) h_22 rfl 25 (by decide) (htb _ tw_707) (fun _ h9 => h9) rfl d_MD_stands_209 ?_
            refine lv_topl (fun x33 ex33 => ?_)
            have ex33 : x33 = (t_list S.1 pg.1 a i).2.2.1 := ex33.trans (htm2.2.2.1)
            subst ex33
            refine lv_lload hx hb d_MD_stands_212 (lv_at hl 1 rfl) ?_
            refine vp_callSl (va_Run.run (va_runS (As := [.long (-ex), .long ((t_list S.1 pg.1 a i).2.2.1), .long tt]) (rest := [.long (((t_list S.1 pg.1 a i).1 + (t_list S.1 pg.1 a i).2.1) + c0.toInt64)]) ⟨hx, hb, hml, hown, hts⟩ (c_MD_nearest l (-ex) (t_list S.1 pg.1 a i).2.2.1 tt c_28) (cwS 3 hts (tb_S tw_868 tw_869 tw_8 tw_870) rfl rfl rfl (by decide +kernel) ⟨(Nat.le_of_ble_eq_true rfl), (Nat.le_of_ble_eq_true rfl)⟩) pz_preP rfl rfl hl.1 rfl (lv_room (Nat.le_of_ble_eq_true rfl)) d_MD_stands_214 ⟨(Nat.le_of_ble_eq_true rfl), (Nat.le_of_ble_eq_true rfl)⟩)) (fun r34 hw => ?_)
            have hw : r34 = (k_near (-ex) (t_list S.1 pg.1 a i).2.2.1 tt) := hw
            subst r34
            refine lv_lsub hx hb d_MD_stands_217 ?_
            exact pz_lret hx hb hr hlocks hK hP hD hS (Nat.le_of_ble_eq_true rfl) (Nat.le_of_ble_eq_true rfl) ⟨M2, rfl, (st_neg hF hex hJ.1 hn5 hab hai hib hbn g4 g6 htot htt c_20 c_27 c_28 (Or.inr ⟨rfl, c_30⟩)), hR2, hth2⟩ d_MD_stands_218
        · exact absurd c_29 (k_nlt c_20)
      · refine lv_lload hx hb d_MD_stands_161 (lv_at hl 0 rfl) ?_
        exact pz_lret hx hb hr hlocks hK hP hD hS (Nat.le_of_ble_eq_true rfl) (Nat.le_of_ble_eq_true rfl) ⟨M2, rfl, (st_tot0 g6 (tot_neg htot htt c_20 c_27 c_28)), hR2, hth2⟩ d_MD_stands_163
  · refine lv_aload_n hx hb d_MD_stands_106 rfl (lv_at hl 3 rfl) ?_
    refine pz_get (ci := 10) (C := "PageMakerModel") (T := T_MD) (N := 26) hx hb htb in_MD hown hK hP (lm_in (by decide)) h_13 rfl 24 (by decide) (htb _ tw_706) (fun _ h9 => h9) rfl d_MD_stands_107 ?_
    refine lv_iload hx hb d_MD_stands_110 (lv_at hl 0 rfl) ?_
    have h_35 : mF G A M1 (A 13) = .inl (cJ G, 4, .inr (.inl M1.g)) := mf_at hA9 M1 13 (by decide)
    have hin36 : vp_in od 4 := hod4
    refine pz_lald hx hb hK hP 1 (lm_in (by decide)) h_35 rfl hin36 d_MD_stands_112 ?_
    refine lv_goto (tgt := 120) hx hb d_MD_stands_113 (by decide) ?_
    obtain ⟨tot, htot⟩ : ∃ tot, tot = k_tot (t_list S.1 pg.1 a b).2.2.2 (t_list S.1 pg.1 a b).2.2.1 ex := ⟨_, rfl⟩
    have htv : (M1.g od.toNatClampNeg) = tot := by rw [htot, hod, ← ord_tm htm]; exact tot_tm htm c_20
    refine lv_topl (fun x37 ex37 => ?_)
    have ex37 : x37 = tot := ex37.trans (htv)
    rw [ex37]
    rw [← htot] at g6
    refine lv_lstore (lv' := [(7, .long tot), (6, .int od), (4, .long ex), (3, .int 1), (0, .ref (A 0)), (1, .int (nI k)), (2, .int (nI i))]) hx hb d_MD_stands_120 hl (by decide) rfl (fun ls hl => ?_)
    refine lv_aload_n hx hb d_MD_stands_122 rfl (lv_at hl 4 rfl) ?_
    refine lv_iload_n hx hb d_MD_stands_123 rfl (lv_at hl 5 rfl) ?_
    refine lv_iload_n hx hb d_MD_stands_124 rfl (lv_at hl 6 rfl) ?_
    refine pz_cv (va_runV (As := [.int (nI k), .int (nI i)]) (rest := []) ⟨hx, hb, hml, hown, hts⟩ (c_MD_addUpTo l G A hA9 M1 _ S.1 pg.1 k a i b0 b1 (by omega) hR1.1.1 ⟨(r1 6 k).trans m6, (r1 7 k).trans m7, (r1 8 k).trans m8, (r1 9 k).trans (m9.trans g1)⟩ hbx hai (by omega)) (cwV 2 hts (tb_V tw_856 tw_858 tp_23 tw_8 tw_859) rfl rfl rfl (by decide +kernel) ⟨(Nat.le_of_ble_eq_true rfl), (Nat.le_of_ble_eq_true rfl)⟩) (pz_preV (zz_ok _ _ _) hK hP hD hS hA hz (ci := 10) rfl rfl (lm_in (by decide)) h_13) rfl rfl hl.1 rfl (lv_room (Nat.le_of_ble_eq_true rfl)) d_MD_stands_125 ⟨(Nat.le_of_ble_eq_true rfl), (Nat.le_of_ble_eq_true rfl)⟩) hP hD hS hA (fun L8 f8 H locs hw hP hD hS => ?_)
    obtain ⟨M2, hu, hmk2, htm2⟩ := hw
    have eL8 : L8 = LM A := (Prod.mk.inj hu).1
    have ef8 : f8 = mF G A M2 := (Prod.mk.inj hu).2
    subst eL8
    subst ef8
    have hR2 : MR M2 S := mr_ir hmk2.1 hmk2.2 hR1
    have hth2 : M2.th = 0 := (congrFun hmk2.1 0).trans (congrFun hmk.1 0)
    refine lv_aload_n hx hb d_MD_stands_128 rfl (lv_at hl 4 rfl) ?_
    have h_38 : mF G A M2 (A 0) = .inr (10, [.int M2.th, .ref (A 1), .ref (A 2), .ref (A 3), .ref (A 4), .ref (A 5), .int M2.ct, .int M2.ht, .int M2.tp, .int M2.gr, .ref (A 6), .ref (A 7), .ref (A 8), .ref (A 9), .ref (A 10), .ref (A 11), .ref (A 12), .int M2.pg, .int M2.bg, .int M2.io, .int M2.be, .int M2.le, .long M2.ln, .long M2.dp, .ref (A 13), .long M2.sh]) := mf_at hA9 M2 0 (by decide)
    refine pz_get (ci := 10) (C := "PageMakerModel") (T := T_MD) (N := 26) hx hb htb in_MD hown hK hP (lm_in (by decide)) h_38 rfl 22 (by decide) (htb _ tw_704) (fun _ h9 => h9) rfl d_MD_stands_129 ?_
    refine lv_topl (fun x39 ex39 => ?_)
    have ex39 : x39 = (t_list S.1 pg.1 a i).1 := ex39.trans (htm2.1)
    subst ex39
    refine lv_aload_n hx hb d_MD_stands_132 rfl (lv_at hl 4 rfl) ?_
    refine pz_get (ci := 10) (C := "PageMakerModel") (T := T_MD) (N := 26) hx hb htb in_MD hown hK hP (lm_in (by decide)) h_38 rfl 23 (by decide) (htb _ tw_705) (fun _ h9 => h9) rfl d_MD_stands_133 ?_
    refine lv_topl (fun x40 ex40 => ?_)
    have ex40 : x40 = (t_list S.1 pg.1 a i).2.1 := ex40.trans (htm2.2.1)
    subst ex40
    refine lv_ladd hx hb d_MD_stands_136 ?_
    refine lv_aload_n hx hb d_MD_stands_137 rfl (lv_at hl 4 rfl) ?_
    refine pz_get (ci := 10) (C := "PageMakerModel") (T := T_MD) (N := 26) hx hb htb in_MD hown hK hP (lm_in (by decide)) h_38 rfl 3 (by decide) (htb _ tw_685) (fun _ h9 => h9) rfl d_MD_stands_138 ?_
    refine lv_iload_n hx hb d_MD_stands_141 rfl (lv_at hl 6 rfl) ?_
    have h_41 : mF G A M2 (A 3) = .inl (cI G, 2000, .inl M2.tw) := mf_at hA9 M2 3 (by decide)
    refine pz_iald (j := i) hx hb hK hP 0 (lm_in (by decide)) h_41 rfl (by omega) (by decide) d_MD_stands_142 ?_
    refine lv_topi (fun x42 ex42 => ?_)
    have ex42 : x42 = c0 := ex42.trans (((congrFun (congrFun hmk2.2 3) i).trans ((r1 3 i).trans him.2.1)))
    rw [ex42]
    refine lv_i2l hx hb d_MD_stands_143 rfl ?_
    refine lv_ladd hx hb d_MD_stands_144 ?_
    refine lv_lstore (lv' := [(9, .long (((t_list S.1 pg.1 a i).1 + (t_list S.1 pg.1 a i).2.1) + c0.toInt64)), (7, .long tot), (6, .int od), (4, .long ex), (3, .int 1), (0, .ref (A 0)), (1, .int (nI k)), (2, .int (nI i))]) hx hb d_MD_stands_145 hl (by decide) rfl (fun ls hl => ?_)
    refine lv_lload hx hb d_MD_stands_147 (lv_at hl 3 rfl) ?_
    refine lv_lconst (v := 0) hx hb d_MD_stands_149 rfl ?_
    refine pz_leq (tgt := 161) hx hb d_MD_stands_150 d_MD_stands_151 (by decide) (fun c_43 => ?_) (fun c_43 => ?_)
    · refine lv_lload hx hb d_MD_stands_161 (lv_at hl 0 rfl) ?_
      exact pz_lret hx hb hr hlocks hK hP hD hS (Nat.le_of_ble_eq_true rfl) (Nat.le_of_ble_eq_true rfl) ⟨M2, rfl, (st_zero g4 g6 htot c_43), hR2, hth2⟩ d_MD_stands_163
    · refine lv_lload hx hb d_MD_stands_154 (lv_at hl 1 rfl) ?_
      refine lv_lconst (v := 0) hx hb d_MD_stands_156 rfl ?_
      refine pz_lne (tgt := 164) hx hb d_MD_stands_157 d_MD_stands_158 (by decide) (fun c_44 => ?_) (fun c_44 => ?_)
      · refine lv_lload hx hb d_MD_stands_164 (lv_at hl 3 rfl) ?_
        refine lv_lconst (v := 0) hx hb d_MD_stands_166 rfl ?_
        refine pz_lle (tgt := 189) hx hb d_MD_stands_167 d_MD_stands_168 (by decide) (fun c_45 => ?_) (fun c_45 => ?_)
        · exact absurd c_20 (k_nlt c_45)
        · refine lv_lload hx hb d_MD_stands_171 (lv_at hl 0 rfl) ?_
          refine lv_lload hx hb d_MD_stands_173 (lv_at hl 3 rfl) ?_
          refine lv_aload_n hx hb d_MD_stands_175 rfl (lv_at hl 5 rfl) ?_
          refine pz_get (ci := 10) (C := "PageMakerModel") (T := T_MD) (N := 26) hx hb htb in_MD hown hK hP (lm_in (by decide)) h_38 rfl 24 (by decide) (htb _ tw_706) (fun _ h9 => h9) rfl d_MD_stands_176 ?_
          refine lv_iload hx hb d_MD_stands_179 (lv_at hl 2 rfl) ?_
          have h_46 : mF G A M2 (A 13) = .inl (cJ G, 4, .inr (.inl M2.g)) := mf_at hA9 M2 13 (by decide)
          have hin47 : vp_in od 4 := hod4
          refine pz_lald hx hb hK hP 1 (lm_in (by decide)) h_46 rfl hin47 d_MD_stands_181 ?_
          refine lv_lload hx hb d_MD_stands_182 (lv_at hl 1 rfl) ?_
          refine vp_callSl (va_Run.run (va_runS (As := [.long ex, .long (M2.g od.toNatClampNeg), .long tot]) (rest := [.long (((t_list S.1 pg.1 a i).1 + (t_list S.1 pg.1 a i).2.1) + c0.toInt64)]) ⟨hx, hb, hml, hown, hts⟩ (c_MD_nearest l ex (M2.g od.toNatClampNeg) tot c_44) (cwS 3 hts (tb_S tw_868 tw_869 tw_8 tw_870) rfl rfl rfl (by decide +kernel) ⟨(Nat.le_of_ble_eq_true rfl), (Nat.le_of_ble_eq_true rfl)⟩) pz_preP rfl rfl hl.1 rfl (lv_room (Nat.le_of_ble_eq_true rfl)) d_MD_stands_184 ⟨(Nat.le_of_ble_eq_true rfl), (Nat.le_of_ble_eq_true rfl)⟩)) (fun r48 hw => ?_)
          have hw : r48 = (k_near ex (M2.g od.toNatClampNeg) tot) := hw
          subst r48
          refine lv_ladd hx hb d_MD_stands_187 ?_
          exact pz_lret hx hb hr hlocks hK hP hD hS (Nat.le_of_ble_eq_true rfl) (Nat.le_of_ble_eq_true rfl) ⟨M2, rfl, (st_pos hJ.1 hn5 hab hai hib hbn g4 g5 g6 hod htot htm2 c_20 c_44), hR2, hth2⟩ d_MD_stands_188
      · refine lv_lload hx hb d_MD_stands_161 (lv_at hl 0 rfl) ?_
        exact pz_lret hx hb hr hlocks hK hP hD hS (Nat.le_of_ble_eq_true rfl) (Nat.le_of_ble_eq_true rfl) ⟨M2, rfl, (st_tot0 g6 c_44), hR2, hth2⟩ d_MD_stands_163
set_option maxHeartbeats 4000000 in
set_option maxRecDepth 100000 in
/-- model: stands, wrong -/
theorem x_MD_stands (l : Launch) (G : gG) (A : Nat → Nat) (hA9 : mJn A) (M : MS) (sz : Nat) (S : CS) (k i : Int32) (hJ : J S S.1.length) (hR : MR M S) (hno9 : ¬ st_ok S.1 S.2.2.1 k i) : mJ l y_MD_stands w_MD_stands ({ frames := 0, cells := 0, slots := 0, locals := 0 }) G (LM A) (mF G A M) sz [.ref (A 0), .int k, .int i] 0 0 (fun r u => r = 0 ∧ u = (LM A, mF G A (M.si 0 1))) := by
  refine pz_met (cc := prog_12_method_27_code) (maxL := 11) (ret := (some .long)) (by decide) rfl (Nat.le_of_ble_eq_true rfl) ?_
  intro p e s m below meth c ls hx hb hr hml hts hown hlocks hin hsz hK hP hD hS hA hz hl
  have htb : ∀ w ∈ TB, w.before _ s = true := fun w h => hts w (List.mem_cons_of_mem _ h)
  have hl : lv_has ls 11 [(0, .ref (A 0)), (1, .int k), (2, .int i)] := hl
  have hn5 : S.1.length ≤ 512 := hJ.2.1
  have hp5 : S.2.2.1.length ≤ 512 := j_pgs hJ
  have q5 : M.pg = nI S.2.2.1.length := hR.1.2.2.2.2.1
  refine lv_iload_n hx hb d_MD_stands_0 rfl (lv_at hl 1 rfl) ?_
  refine lv_if_lt (tgt := 45) hx hb d_MD_stands_1 (by decide) (fun c_1 => ?_) (fun c_1 => ?_)
  · refine lv_iconst (v := 0) hx hb d_MD_stands_45 (by decide) ?_
    refine lv_istore_n (lv' := [(3, .int 0), (0, .ref (A 0)), (1, .int k), (2, .int i)]) hx hb d_MD_stands_46 rfl hl (by decide) rfl (fun ls hl => ?_)
    refine lv_aload_n hx hb d_MD_stands_47 rfl (lv_at hl 1 rfl) ?_
    refine lv_iload_n hx hb d_MD_stands_48 rfl (lv_at hl 0 rfl) ?_
    refine lv_if_eq (tgt := 56) hx hb d_MD_stands_49 (by decide) (fun _ => ?_) (fun c0 => absurd c0 (by decide))
    refine lv_iconst (v := 1) hx hb d_MD_stands_56 (by decide) ?_
    have h_2 : mF G A M (A 0) = .inr (10, [.int M.th, .ref (A 1), .ref (A 2), .ref (A 3), .ref (A 4), .ref (A 5), .int M.ct, .int M.ht, .int M.tp, .int M.gr, .ref (A 6), .ref (A 7), .ref (A 8), .ref (A 9), .ref (A 10), .ref (A 11), .ref (A 12), .int M.pg, .int M.bg, .int M.io, .int M.be, .int M.le, .long M.ln, .long M.dp, .ref (A 13), .long M.sh]) := mf_at hA9 M 0 (by decide)
    refine pz_put (ci := 10) (v := .int 1) (ty := .int) (C := "PageMakerModel") (T := T_MD) (N := 26) hx hb htb in_MD ty_MD to_MD nm_MD hown hK hP hD hS (lm_in (by decide)) h_2 rfl 0 (by decide) (htb _ tw_682) (fun _ h9 => h9) rfl rfl rfl rfl (Nat.le_of_ble_eq_true rfl) d_MD_stands_57 (fun f3 H locs ef3 hP hD hS => ?_)
    have ef3 : f3 = va_up (mF G A M) (A 0) (.inr (10, [.int 1, .ref (A 1), .ref (A 2), .ref (A 3), .ref (A 4), .ref (A 5), .int M.ct, .int M.ht, .int M.tp, .int M.gr, .ref (A 6), .ref (A 7), .ref (A 8), .ref (A 9), .ref (A 10), .ref (A 11), .ref (A 12), .int M.pg, .int M.bg, .int M.io, .int M.be, .int M.le, .long M.ln, .long M.dp, .ref (A 13), .long M.sh])) := ef3
    have ef3 : f3 = mF G A (M.si 0 1) := ef3.trans (mf_o hA9 (M1 := M.si 0 1) rfl rfl)
    subst ef3
    refine lv_iload_n hx hb d_MD_stands_60 rfl (lv_at hl 0 rfl) ?_
    refine lv_if_ne (tgt := 66) hx hb d_MD_stands_61 (by decide) (fun c0 => absurd c0 (by decide)) (fun _ => ?_)
    refine lv_lconst (v := 0) hx hb d_MD_stands_64 rfl ?_
    exact pz_lret hx hb hr hlocks hK hP hD hS (Nat.le_of_ble_eq_true rfl) (Nat.le_of_ble_eq_true rfl) ⟨rfl, rfl⟩ d_MD_stands_65
  · refine lv_iload_n hx hb d_MD_stands_4 rfl (lv_at hl 1 rfl) ?_
    refine lv_aload_n hx hb d_MD_stands_5 rfl (lv_at hl 0 rfl) ?_
    have h_4 : mF G A M (A 0) = .inr (10, [.int M.th, .ref (A 1), .ref (A 2), .ref (A 3), .ref (A 4), .ref (A 5), .int M.ct, .int M.ht, .int M.tp, .int M.gr, .ref (A 6), .ref (A 7), .ref (A 8), .ref (A 9), .ref (A 10), .ref (A 11), .ref (A 12), .int M.pg, .int M.bg, .int M.io, .int M.be, .int M.le, .long M.ln, .long M.dp, .ref (A 13), .long M.sh]) := mf_at hA9 M 0 (by decide)
    refine pz_get (ci := 10) (C := "PageMakerModel") (T := T_MD) (N := 26) hx hb htb in_MD hown hK hP (lm_in (by decide)) h_4 rfl 17 (by decide) (htb _ tw_699) (fun _ h9 => h9) rfl d_MD_stands_6 ?_
    refine lv_topi (fun x5 ex5 => ?_)
    have ex5 : x5 = nI S.2.2.1.length := ex5.trans (q5)
    subst ex5
    refine lv_icmp_ge (tgt := 45) hx hb d_MD_stands_9 (by decide) (fun c_6 => ?_) (fun c_6 => ?_)
    · refine lv_iconst (v := 0) hx hb d_MD_stands_45 (by decide) ?_
      refine lv_istore_n (lv' := [(3, .int 0), (0, .ref (A 0)), (1, .int k), (2, .int i)]) hx hb d_MD_stands_46 rfl hl (by decide) rfl (fun ls hl => ?_)
      refine lv_aload_n hx hb d_MD_stands_47 rfl (lv_at hl 1 rfl) ?_
      refine lv_iload_n hx hb d_MD_stands_48 rfl (lv_at hl 0 rfl) ?_
      refine lv_if_eq (tgt := 56) hx hb d_MD_stands_49 (by decide) (fun _ => ?_) (fun c0 => absurd c0 (by decide))
      refine lv_iconst (v := 1) hx hb d_MD_stands_56 (by decide) ?_
      refine pz_put (ci := 10) (v := .int 1) (ty := .int) (C := "PageMakerModel") (T := T_MD) (N := 26) hx hb htb in_MD ty_MD to_MD nm_MD hown hK hP hD hS (lm_in (by decide)) h_4 rfl 0 (by decide) (htb _ tw_682) (fun _ h9 => h9) rfl rfl rfl rfl (Nat.le_of_ble_eq_true rfl) d_MD_stands_57 (fun f7 H locs ef7 hP hD hS => ?_)
      have ef7 : f7 = va_up (mF G A M) (A 0) (.inr (10, [.int 1, .ref (A 1), .ref (A 2), .ref (A 3), .ref (A 4), .ref (A 5), .int M.ct, .int M.ht, .int M.tp, .int M.gr, .ref (A 6), .ref (A 7), .ref (A 8), .ref (A 9), .ref (A 10), .ref (A 11), .ref (A 12), .int M.pg, .int M.bg, .int M.io, .int M.be, .int M.le, .long M.ln, .long M.dp, .ref (A 13), .long M.sh])) := ef7
      have ef7 : f7 = mF G A (M.si 0 1) := ef7.trans (mf_o hA9 (M1 := M.si 0 1) rfl rfl)
      subst ef7
      refine lv_iload_n hx hb d_MD_stands_60 rfl (lv_at hl 0 rfl) ?_
      refine lv_if_ne (tgt := 66) hx hb d_MD_stands_61 (by decide) (fun c0 => absurd c0 (by decide)) (fun _ => ?_)
      refine lv_lconst (v := 0) hx hb d_MD_stands_64 rfl ?_
      exact pz_lret hx hb hr hlocks hK hP hD hS (Nat.le_of_ble_eq_true rfl) (Nat.le_of_ble_eq_true rfl) ⟨rfl, rfl⟩ d_MD_stands_65
    · obtain ⟨kk, hkk, rfl⟩ := k_idx ⟨i32_le c_1, i32_lt c_6⟩ (by omega)
      obtain ⟨pg, hp9⟩ : ∃ pg, S.2.2.1[kk]? = some pg := ⟨_, List.getElem?_eq_getElem hkk⟩
      obtain ⟨m6, m7, m8, m9, m10, m11, m12⟩ := hR.1.2.2.2.2.2 kk pg hp9
      obtain ⟨a, b, hab, hbn, ⟨b0, b1, hbx⟩, g1, g2, -⟩ := hJ.2.2.2.1.1 kk pg hp9
      refine lv_iload_n hx hb d_MD_stands_12 rfl (lv_at hl 2 rfl) ?_
      refine lv_aload_n hx hb d_MD_stands_13 rfl (lv_at hl 0 rfl) ?_
      refine pz_get (ci := 10) (C := "PageMakerModel") (T := T_MD) (N := 26) hx hb htb in_MD hown hK hP (lm_in (by decide)) h_4 rfl 13 (by decide) (htb _ tw_695) (fun _ h9 => h9) rfl d_MD_stands_14 ?_
      refine lv_iload_n hx hb d_MD_stands_17 rfl (lv_at hl 1 rfl) ?_
      have h_8 : mF G A M (A 9) = .inl (cI G, 2001, .inl M.fs) := mf_at hA9 M 9 (by decide)
      refine pz_iald (j := kk) hx hb hK hP 0 (lm_in (by decide)) h_8 rfl (by omega) (by decide) d_MD_stands_18 ?_
      refine lv_topi (fun x9 ex9 => ?_)
      have ex9 : x9 = nI a := ex9.trans ((m9.trans g1))
      subst ex9
      refine lv_icmp_lt (tgt := 45) hx hb d_MD_stands_19 (by decide) (fun c_10 => ?_) (fun c_10 => ?_)
      · refine lv_iconst (v := 0) hx hb d_MD_stands_45 (by decide) ?_
        refine lv_istore_n (lv' := [(3, .int 0), (0, .ref (A 0)), (1, .int (nI kk)), (2, .int i)]) hx hb d_MD_stands_46 rfl hl (by decide) rfl (fun ls hl => ?_)
        refine lv_aload_n hx hb d_MD_stands_47 rfl (lv_at hl 1 rfl) ?_
        refine lv_iload_n hx hb d_MD_stands_48 rfl (lv_at hl 0 rfl) ?_
        refine lv_if_eq (tgt := 56) hx hb d_MD_stands_49 (by decide) (fun _ => ?_) (fun c0 => absurd c0 (by decide))
        refine lv_iconst (v := 1) hx hb d_MD_stands_56 (by decide) ?_
        refine pz_put (ci := 10) (v := .int 1) (ty := .int) (C := "PageMakerModel") (T := T_MD) (N := 26) hx hb htb in_MD ty_MD to_MD nm_MD hown hK hP hD hS (lm_in (by decide)) h_4 rfl 0 (by decide) (htb _ tw_682) (fun _ h9 => h9) rfl rfl rfl rfl (Nat.le_of_ble_eq_true rfl) d_MD_stands_57 (fun f11 H locs ef11 hP hD hS => ?_)
        have ef11 : f11 = va_up (mF G A M) (A 0) (.inr (10, [.int 1, .ref (A 1), .ref (A 2), .ref (A 3), .ref (A 4), .ref (A 5), .int M.ct, .int M.ht, .int M.tp, .int M.gr, .ref (A 6), .ref (A 7), .ref (A 8), .ref (A 9), .ref (A 10), .ref (A 11), .ref (A 12), .int M.pg, .int M.bg, .int M.io, .int M.be, .int M.le, .long M.ln, .long M.dp, .ref (A 13), .long M.sh])) := ef11
        have ef11 : f11 = mF G A (M.si 0 1) := ef11.trans (mf_o hA9 (M1 := M.si 0 1) rfl rfl)
        subst ef11
        refine lv_iload_n hx hb d_MD_stands_60 rfl (lv_at hl 0 rfl) ?_
        refine lv_if_ne (tgt := 66) hx hb d_MD_stands_61 (by decide) (fun c0 => absurd c0 (by decide)) (fun _ => ?_)
        refine lv_lconst (v := 0) hx hb d_MD_stands_64 rfl ?_
        exact pz_lret hx hb hr hlocks hK hP hD hS (Nat.le_of_ble_eq_true rfl) (Nat.le_of_ble_eq_true rfl) ⟨rfl, rfl⟩ d_MD_stands_65
      · refine lv_iload_n hx hb d_MD_stands_22 rfl (lv_at hl 2 rfl) ?_
        refine lv_aload_n hx hb d_MD_stands_23 rfl (lv_at hl 0 rfl) ?_
        refine pz_get (ci := 10) (C := "PageMakerModel") (T := T_MD) (N := 26) hx hb htb in_MD hown hK hP (lm_in (by decide)) h_4 rfl 14 (by decide) (htb _ tw_696) (fun _ h9 => h9) rfl d_MD_stands_24 ?_
        refine lv_iload_n hx hb d_MD_stands_27 rfl (lv_at hl 1 rfl) ?_
        have h_12 : mF G A M (A 10) = .inl (cI G, 2001, .inl M.es) := mf_at hA9 M 10 (by decide)
        refine pz_iald (j := kk) hx hb hK hP 0 (lm_in (by decide)) h_12 rfl (by omega) (by decide) d_MD_stands_28 ?_
        refine lv_topi (fun x13 ex13 => ?_)
        have ex13 : x13 = nI b := ex13.trans ((m10.trans g2))
        subst ex13
        refine lv_icmp_ge (tgt := 45) hx hb d_MD_stands_29 (by decide) (fun c_14 => ?_) (fun c_14 => ?_)
        · refine lv_iconst (v := 0) hx hb d_MD_stands_45 (by decide) ?_
          refine lv_istore_n (lv' := [(3, .int 0), (0, .ref (A 0)), (1, .int (nI kk)), (2, .int i)]) hx hb d_MD_stands_46 rfl hl (by decide) rfl (fun ls hl => ?_)
          refine lv_aload_n hx hb d_MD_stands_47 rfl (lv_at hl 1 rfl) ?_
          refine lv_iload_n hx hb d_MD_stands_48 rfl (lv_at hl 0 rfl) ?_
          refine lv_if_eq (tgt := 56) hx hb d_MD_stands_49 (by decide) (fun _ => ?_) (fun c0 => absurd c0 (by decide))
          refine lv_iconst (v := 1) hx hb d_MD_stands_56 (by decide) ?_
          refine pz_put (ci := 10) (v := .int 1) (ty := .int) (C := "PageMakerModel") (T := T_MD) (N := 26) hx hb htb in_MD ty_MD to_MD nm_MD hown hK hP hD hS (lm_in (by decide)) h_4 rfl 0 (by decide) (htb _ tw_682) (fun _ h9 => h9) rfl rfl rfl rfl (Nat.le_of_ble_eq_true rfl) d_MD_stands_57 (fun f15 H locs ef15 hP hD hS => ?_)
          have ef15 : f15 = va_up (mF G A M) (A 0) (.inr (10, [.int 1, .ref (A 1), .ref (A 2), .ref (A 3), .ref (A 4), .ref (A 5), .int M.ct, .int M.ht, .int M.tp, .int M.gr, .ref (A 6), .ref (A 7), .ref (A 8), .ref (A 9), .ref (A 10), .ref (A 11), .ref (A 12), .int M.pg, .int M.bg, .int M.io, .int M.be, .int M.le, .long M.ln, .long M.dp, .ref (A 13), .long M.sh])) := ef15
          have ef15 : f15 = mF G A (M.si 0 1) := ef15.trans (mf_o hA9 (M1 := M.si 0 1) rfl rfl)
          subst ef15
          refine lv_iload_n hx hb d_MD_stands_60 rfl (lv_at hl 0 rfl) ?_
          refine lv_if_ne (tgt := 66) hx hb d_MD_stands_61 (by decide) (fun c0 => absurd c0 (by decide)) (fun _ => ?_)
          refine lv_lconst (v := 0) hx hb d_MD_stands_64 rfl ?_
          exact pz_lret hx hb hr hlocks hK hP hD hS (Nat.le_of_ble_eq_true rfl) (Nat.le_of_ble_eq_true rfl) ⟨rfl, rfl⟩ d_MD_stands_65
        · obtain ⟨ii, hii, rfl⟩ := k_idx ⟨i32_pos (i32_le c_10) (by omega), i32_lt c_14⟩ (show b < 2 ^ 31 by omega)
          obtain ⟨it, hi9⟩ : ∃ it, S.1[ii]? = some it := ⟨_, List.getElem?_eq_getElem (by omega)⟩
          obtain ⟨him, -⟩ := hR.1.1.2.2 ii it hi9
          rcases it with ⟨ia, ib⟩ | ⟨ia, ib, io, id9⟩ | ia | ia
          · exact absurd ⟨kk, ii, pg, ia, ib, rfl, rfl, hp9, hi9, by rw [g1]; exact i32_le c_10, by rw [g2]; exact i32_lt c_14⟩ hno9
          · have him : itM M.r ii (.inr (.inl (ia, ib, io, id9))) := him
            refine lv_aload_n hx hb d_MD_stands_32 rfl (lv_at hl 0 rfl) ?_
            refine pz_get (ci := 10) (C := "PageMakerModel") (T := T_MD) (N := 26) hx hb htb in_MD hown hK hP (lm_in (by decide)) h_4 rfl 1 (by decide) (htb _ tw_683) (fun _ h9 => h9) rfl d_MD_stands_33 ?_
            refine lv_iload_n hx hb d_MD_stands_36 rfl (lv_at hl 2 rfl) ?_
            have h_16 : mF G A M (A 1) = .inl (cI G, 2000, .inl M.kd) := mf_at hA9 M 1 (by decide)
            refine pz_iald (j := ii) hx hb hK hP 0 (lm_in (by decide)) h_16 rfl (by omega) (by decide) d_MD_stands_37 ?_
            refine lv_topi (fun x17 ex17 => ?_)
            have ex17 : x17 = 1 := ex17.trans (him.1)
            subst ex17
            refine lv_if_ne (tgt := 45) hx hb d_MD_stands_38 (by decide) (fun _ => ?_) (fun c0 => absurd c0 (by decide))
            refine lv_iconst (v := 0) hx hb d_MD_stands_45 (by decide) ?_
            refine lv_istore_n (lv' := [(3, .int 0), (0, .ref (A 0)), (1, .int (nI kk)), (2, .int (nI ii))]) hx hb d_MD_stands_46 rfl hl (by decide) rfl (fun ls hl => ?_)
            refine lv_aload_n hx hb d_MD_stands_47 rfl (lv_at hl 1 rfl) ?_
            refine lv_iload_n hx hb d_MD_stands_48 rfl (lv_at hl 0 rfl) ?_
            refine lv_if_eq (tgt := 56) hx hb d_MD_stands_49 (by decide) (fun _ => ?_) (fun c0 => absurd c0 (by decide))
            refine lv_iconst (v := 1) hx hb d_MD_stands_56 (by decide) ?_
            refine pz_put (ci := 10) (v := .int 1) (ty := .int) (C := "PageMakerModel") (T := T_MD) (N := 26) hx hb htb in_MD ty_MD to_MD nm_MD hown hK hP hD hS (lm_in (by decide)) h_4 rfl 0 (by decide) (htb _ tw_682) (fun _ h9 => h9) rfl rfl rfl rfl (Nat.le_of_ble_eq_true rfl) d_MD_stands_57 (fun f18 H locs ef18 hP hD hS => ?_)
            have ef18 : f18 = va_up (mF G A M) (A 0) (.inr (10, [.int 1, .ref (A 1), .ref (A 2), .ref (A 3), .ref (A 4), .ref (A 5), .int M.ct, .int M.ht, .int M.tp, .int M.gr, .ref (A 6), .ref (A 7), .ref (A 8), .ref (A 9), .ref (A 10), .ref (A 11), .ref (A 12), .int M.pg, .int M.bg, .int M.io, .int M.be, .int M.le, .long M.ln, .long M.dp, .ref (A 13), .long M.sh])) := ef18
            have ef18 : f18 = mF G A (M.si 0 1) := ef18.trans (mf_o hA9 (M1 := M.si 0 1) rfl rfl)
            subst ef18
            refine lv_iload_n hx hb d_MD_stands_60 rfl (lv_at hl 0 rfl) ?_
            refine lv_if_ne (tgt := 66) hx hb d_MD_stands_61 (by decide) (fun c0 => absurd c0 (by decide)) (fun _ => ?_)
            refine lv_lconst (v := 0) hx hb d_MD_stands_64 rfl ?_
            exact pz_lret hx hb hr hlocks hK hP hD hS (Nat.le_of_ble_eq_true rfl) (Nat.le_of_ble_eq_true rfl) ⟨rfl, rfl⟩ d_MD_stands_65
          · have him : itM M.r ii (.inr (.inr (.inl ia))) := him
            refine lv_aload_n hx hb d_MD_stands_32 rfl (lv_at hl 0 rfl) ?_
            refine pz_get (ci := 10) (C := "PageMakerModel") (T := T_MD) (N := 26) hx hb htb in_MD hown hK hP (lm_in (by decide)) h_4 rfl 1 (by decide) (htb _ tw_683) (fun _ h9 => h9) rfl d_MD_stands_33 ?_
            refine lv_iload_n hx hb d_MD_stands_36 rfl (lv_at hl 2 rfl) ?_
            have h_19 : mF G A M (A 1) = .inl (cI G, 2000, .inl M.kd) := mf_at hA9 M 1 (by decide)
            refine pz_iald (j := ii) hx hb hK hP 0 (lm_in (by decide)) h_19 rfl (by omega) (by decide) d_MD_stands_37 ?_
            refine lv_topi (fun x20 ex20 => ?_)
            have ex20 : x20 = 2 := ex20.trans (him.1)
            subst ex20
            refine lv_if_ne (tgt := 45) hx hb d_MD_stands_38 (by decide) (fun _ => ?_) (fun c0 => absurd c0 (by decide))
            refine lv_iconst (v := 0) hx hb d_MD_stands_45 (by decide) ?_
            refine lv_istore_n (lv' := [(3, .int 0), (0, .ref (A 0)), (1, .int (nI kk)), (2, .int (nI ii))]) hx hb d_MD_stands_46 rfl hl (by decide) rfl (fun ls hl => ?_)
            refine lv_aload_n hx hb d_MD_stands_47 rfl (lv_at hl 1 rfl) ?_
            refine lv_iload_n hx hb d_MD_stands_48 rfl (lv_at hl 0 rfl) ?_
            refine lv_if_eq (tgt := 56) hx hb d_MD_stands_49 (by decide) (fun _ => ?_) (fun c0 => absurd c0 (by decide))
            refine lv_iconst (v := 1) hx hb d_MD_stands_56 (by decide) ?_
            refine pz_put (ci := 10) (v := .int 1) (ty := .int) (C := "PageMakerModel") (T := T_MD) (N := 26) hx hb htb in_MD ty_MD to_MD nm_MD hown hK hP hD hS (lm_in (by decide)) h_4 rfl 0 (by decide) (htb _ tw_682) (fun _ h9 => h9) rfl rfl rfl rfl (Nat.le_of_ble_eq_true rfl) d_MD_stands_57 (fun f21 H locs ef21 hP hD hS => ?_)
            have ef21 : f21 = va_up (mF G A M) (A 0) (.inr (10, [.int 1, .ref (A 1), .ref (A 2), .ref (A 3), .ref (A 4), .ref (A 5), .int M.ct, .int M.ht, .int M.tp, .int M.gr, .ref (A 6), .ref (A 7), .ref (A 8), .ref (A 9), .ref (A 10), .ref (A 11), .ref (A 12), .int M.pg, .int M.bg, .int M.io, .int M.be, .int M.le, .long M.ln, .long M.dp, .ref (A 13), .long M.sh])) := ef21
            have ef21 : f21 = mF G A (M.si 0 1) := ef21.trans (mf_o hA9 (M1 := M.si 0 1) rfl rfl)
            subst ef21
            refine lv_iload_n hx hb d_MD_stands_60 rfl (lv_at hl 0 rfl) ?_
            refine lv_if_ne (tgt := 66) hx hb d_MD_stands_61 (by decide) (fun c0 => absurd c0 (by decide)) (fun _ => ?_)
            refine lv_lconst (v := 0) hx hb d_MD_stands_64 rfl ?_
            exact pz_lret hx hb hr hlocks hK hP hD hS (Nat.le_of_ble_eq_true rfl) (Nat.le_of_ble_eq_true rfl) ⟨rfl, rfl⟩ d_MD_stands_65
          · have him : itM M.r ii (.inr (.inr (.inr ia))) := him
            refine lv_aload_n hx hb d_MD_stands_32 rfl (lv_at hl 0 rfl) ?_
            refine pz_get (ci := 10) (C := "PageMakerModel") (T := T_MD) (N := 26) hx hb htb in_MD hown hK hP (lm_in (by decide)) h_4 rfl 1 (by decide) (htb _ tw_683) (fun _ h9 => h9) rfl d_MD_stands_33 ?_
            refine lv_iload_n hx hb d_MD_stands_36 rfl (lv_at hl 2 rfl) ?_
            have h_22 : mF G A M (A 1) = .inl (cI G, 2000, .inl M.kd) := mf_at hA9 M 1 (by decide)
            refine pz_iald (j := ii) hx hb hK hP 0 (lm_in (by decide)) h_22 rfl (by omega) (by decide) d_MD_stands_37 ?_
            refine lv_topi (fun x23 ex23 => ?_)
            have ex23 : x23 = 3 := ex23.trans (him.1)
            subst ex23
            refine lv_if_ne (tgt := 45) hx hb d_MD_stands_38 (by decide) (fun _ => ?_) (fun c0 => absurd c0 (by decide))
            refine lv_iconst (v := 0) hx hb d_MD_stands_45 (by decide) ?_
            refine lv_istore_n (lv' := [(3, .int 0), (0, .ref (A 0)), (1, .int (nI kk)), (2, .int (nI ii))]) hx hb d_MD_stands_46 rfl hl (by decide) rfl (fun ls hl => ?_)
            refine lv_aload_n hx hb d_MD_stands_47 rfl (lv_at hl 1 rfl) ?_
            refine lv_iload_n hx hb d_MD_stands_48 rfl (lv_at hl 0 rfl) ?_
            refine lv_if_eq (tgt := 56) hx hb d_MD_stands_49 (by decide) (fun _ => ?_) (fun c0 => absurd c0 (by decide))
            refine lv_iconst (v := 1) hx hb d_MD_stands_56 (by decide) ?_
            refine pz_put (ci := 10) (v := .int 1) (ty := .int) (C := "PageMakerModel") (T := T_MD) (N := 26) hx hb htb in_MD ty_MD to_MD nm_MD hown hK hP hD hS (lm_in (by decide)) h_4 rfl 0 (by decide) (htb _ tw_682) (fun _ h9 => h9) rfl rfl rfl rfl (Nat.le_of_ble_eq_true rfl) d_MD_stands_57 (fun f24 H locs ef24 hP hD hS => ?_)
            have ef24 : f24 = va_up (mF G A M) (A 0) (.inr (10, [.int 1, .ref (A 1), .ref (A 2), .ref (A 3), .ref (A 4), .ref (A 5), .int M.ct, .int M.ht, .int M.tp, .int M.gr, .ref (A 6), .ref (A 7), .ref (A 8), .ref (A 9), .ref (A 10), .ref (A 11), .ref (A 12), .int M.pg, .int M.bg, .int M.io, .int M.be, .int M.le, .long M.ln, .long M.dp, .ref (A 13), .long M.sh])) := ef24
            have ef24 : f24 = mF G A (M.si 0 1) := ef24.trans (mf_o hA9 (M1 := M.si 0 1) rfl rfl)
            subst ef24
            refine lv_iload_n hx hb d_MD_stands_60 rfl (lv_at hl 0 rfl) ?_
            refine lv_if_ne (tgt := 66) hx hb d_MD_stands_61 (by decide) (fun c0 => absurd c0 (by decide)) (fun _ => ?_)
            refine lv_lconst (v := 0) hx hb d_MD_stands_64 rfl ?_
            exact pz_lret hx hb hr hlocks hK hP hD hS (Nat.le_of_ble_eq_true rfl) (Nat.le_of_ble_eq_true rfl) ⟨rfl, rfl⟩ d_MD_stands_65
