/-! THE LAW: the cases that ask -/
theorem law_back {A : Nat → Prop} {X : va_W} {out : Nat} {e : va_E} {L : List Nat} {f : Nat → va_E} (hD : va_D A ((X ++ [(out, e)]) ++ va_pl L f)) : out ∉ L ∧ (X ++ [(out, e)]) ++ va_pl L f = X ++ va_pl (out :: L) (va_up f out e) := by
  rw [List.append_assoc] at hD
  have hno : out ∉ L := xd_out (hD.part (cx := []) [] rfl rfl)
  refine ⟨hno, ?_⟩
  rw [List.append_assoc]
  congr 1
  exact (xd_pl hno).symm
theorem j_frame {its : List It} {F9 : Fr} {pgs : List (Fr × Pg)} {F : Fr} {P : Op} {T : Tt} {h t g : Int32} {k : Nat} (hJ : J (its, F9, pgs, F, P, T) k) (h1 : k_isZ h) (h2 : k_isS t) (h3 : k_isZ g) : J (its, (h, t, g), pgs, F, P, T) k := ⟨hJ.1, hJ.2.1, ⟨h1, h2, h3⟩, hJ.2.2.2.1, hJ.2.2.2.2.1, hJ.2.2.2.2.2⟩
theorem mr_frame {M : MS} {its : List It} {F9 : Fr} {pgs : List (Fr × Pg)} {F : Fr} {P : Op} {T : Tt} {h t g : Int32} (hM : MR M (its, F9, pgs, F, P, T)) : MR ((((M.si 0 0).si 2 h).si 3 t).si 4 g) (its, (h, t, g), pgs, F, P, T) := ⟨⟨hM.1.1, rfl, rfl, rfl, hM.1.2.2.2.2.1, hM.1.2.2.2.2.2⟩, hM.2⟩
set_option maxHeartbeats 4000000 in
set_option maxRecDepth 100000 in
/-- the law: page -/
theorem lw_page {p : Program} {e : Env} {s : State} {m : MethodId} {below : List Frame} {meth : Method} {c : Code} (l : Launch) (hl9 : l.stackTraces = false) {b Ln : Nat} {xs : Nat → Int32} (hL : Ln ≤ 2560) (C0 : lw_At p s m meth c b Ln xs) (G : gG) (hK : va_K (gD G) cls9 (gT G) s) (hz : gZ G (fun q : Nat => s.heap.size ≤ q) s s.heap) (A : Nat → Nat) (hA9 : mJn A) (pm out : Nat) (n : Nat) (hn : 5 * n + 5 ≤ Ln) (L : List Nat) (f : Nat → va_E) (M : MS) (S : CS) (hI : LI G L f pm out M S n) (H : Heap) (locs : List Loc) (hP : va_P (gD G) cls9 (va_pl (LM A) (mF G A M) ++ va_pl (out :: L) f) H) (hD : va_D (fun q : Nat => s.heap.size ≤ q) (va_pl (LM A) (mF G A M) ++ va_pl (out :: L) f)) (hS : va_S (fun q : Nat => s.heap.size ≤ q) s.heap H locs) (ls : Array Slot) (hl : lv_has ls 8 [(0, .ref b), (1, .ref pm), (2, .ref (A 0)), (3, .ref out), (4, .int (nI (5 * n)))]) (kk : ∀ (L1 : List Nat) (f1 : Nat → va_E) (M1 : MS) (S1 : CS) (H1 : Heap) (locs1 : List Loc) (ls1 : Array Slot), LI G L1 f1 pm out M1 S1 (n + 1) → va_P (gD G) cls9 (va_pl (LM A) (mF G A M1) ++ va_pl (out :: L1) f1) H1 → va_D (fun q : Nat => s.heap.size ≤ q) (va_pl (LM A) (mF G A M1) ++ va_pl (out :: L1) f1) → va_S (fun q : Nat => s.heap.size ≤ q) s.heap H1 locs1 → lv_has ls1 8 [(0, .ref b), (1, .ref pm), (2, .ref (A 0)), (3, .ref out), (4, .int (nI (5 * n)))] → W p l e room_1 s m #[Value.ref b] below meth c H1 locs1 (22 + 2 * (n + 1) + 7 * S1.2.2.1.length) (24067 + 904 * (n + 1) + 933 * S1.2.2.1.length) (lw_Z below #[Value.ref b] s) (F0 m 711 ls1 [])) :
    W p l e room_1 s m #[Value.ref b] below meth c H locs (22 + 2 * n + 7 * S.2.2.1.length) (24067 + 904 * n + 933 * S.2.2.1.length) (lw_Z below #[Value.ref b] s) (F0 m 466 ls []) := by
  obtain ⟨hx, hb, hr, hml, hown, hts0, hX, hbl, hlocks, hgv⟩ := id C0
  have hA : ∀ q : Nat, s.heap.size ≤ q → (fun q : Nat => s.heap.size ≤ q) q := fun _ h => h
  have hbA : ¬ (fun q : Nat => s.heap.size ≤ q) b := Nat.not_le.mpr hbl
  have htb : ∀ w ∈ TB, w.before #[Value.ref b] s = true := fun w h => hts0 w (List.mem_filter.mp h).1
  have hts : ∀ w ∈ (Cond.initialized "PageMaker" :: TB), w.before #[Value.ref b] s = true := fun w h => (List.mem_cons.mp h).elim (fun e9 => e9 ▸ htb _ tw_1) (htb w)
  obtain ⟨its, F9, pgs, F, P, T⟩ := S
  obtain ⟨⟨al, ad, el, ed, fr, op, to, sa, fo, xs9, ys, hR⟩, ⟨g, hout⟩, hJ, hM, hln⟩ := id hI
  have hln : its.length ≤ n := hln
  show W p l e room_1 s m #[Value.ref b] below meth c H locs (22 + 2 * n + 7 * pgs.length) (24067 + 904 * n + 933 * pgs.length) (lw_Z below #[Value.ref b] s) (F0 m 466 ls [])
  have hp5 : pgs.length ≤ 512 := j_pgs hJ
  have hn5 : its.length < 512 := by omega
  obtain ⟨v1, hv19⟩ : ∃ v, v = xs (5 * n + 1) := ⟨_, rfl⟩
  obtain ⟨v2, hv29⟩ : ∃ v, v = xs (5 * n + 2) := ⟨_, rfl⟩
  obtain ⟨hpm, hfp, h_al, h_el, hne9, hdd, hX9, hY, -⟩ := id hR
  have hxl : xs9.length = its.length := hX9.1
  have hyl : ys.length = pgs.length := hY.1
  by_cases hok : (0 ≤ v1 ∧ v1 < nI pgs.length) ∧ 0 ≤ v2 ∧ v2 < 8
  · obtain ⟨k, hk, ek⟩ := k_idx hok.1 (by omega)
    obtain ⟨n2, hn2, en2⟩ := k_idx (n := 8) hok.2 (by decide)
    subst ek
    subst en2
    obtain ⟨pg, hp9⟩ : ∃ pg, pgs[k]? = some pg := ⟨_, List.getElem?_eq_getElem hk⟩
    obtain ⟨y, hy9⟩ : ∃ y, ys[k]? = some y := ⟨_, List.getElem?_eq_getElem (by omega)⟩
    refine lv_aload_n hx hb d_LW_law_466 rfl (lv_at hl 1 rfl) ?_
    refine lv_aload_n hx hb d_LW_law_467 rfl (lv_at hl 0 rfl) ?_
    refine lv_iload hx hb d_LW_law_468 (lv_at hl 4 rfl) ?_
    refine lv_iconst (v := 1) hx hb d_LW_law_470 (by decide) ?_
    refine lv_iadd hx hb d_LW_law_471 ?_
    refine lv_topi (fun x1 ex1 => ?_)
    have ex1 : x1 = nI (5 * n + 1) := ex1.trans (nI_add (5 * n) 1)
    subst ex1
    refine law_sld (j := (5 * n + 1)) (v := (nI k)) hv19 hx hb hX hbl hbA hS (by omega) (by omega) d_LW_law_472 ?_
    refine lv_aload_n hx hb d_LW_law_473 rfl (lv_at hl 0 rfl) ?_
    refine lv_iload hx hb d_LW_law_474 (lv_at hl 4 rfl) ?_
    refine lv_iconst (v := 2) hx hb d_LW_law_476 (by decide) ?_
    refine lv_iadd hx hb d_LW_law_477 ?_
    refine lv_topi (fun x2 ex2 => ?_)
    have ex2 : x2 = nI (5 * n + 2) := ex2.trans (nI_add (5 * n) 2)
    subst ex2
    refine law_sld (j := (5 * n + 2)) (v := (nI n2)) hv29 hx hb hX hbl hbA hS (by omega) (by omega) d_LW_law_478 ?_
    refine lv_aload_n hx hb d_LW_law_479 rfl (lv_at hl 3 rfl) ?_
    refine pz_ci (vx_runSW (As := [.ref pm, .int (nI k), .int (nI n2), .ref out]) (rest := []) ⟨hx, hb, hml, hown, hts⟩ (c_LW_page l G L f _ pm al ad el ed fr op to sa fo xs9 ys its F9 pgs F P T out g k y n2 hR hout hp5 hy9 pg hp9 hn2) (vx_cwSW 4 hts (tb_SS tw_603 tw_604 tw_0 tw_605) rfl rfl rfl (by decide +kernel) ⟨(Nat.le_of_ble_eq_true rfl), (Nat.le_of_ble_eq_true rfl)⟩) (pz_pre (zz_ok _ _ _) hK hP hD hS hA hz) rfl rfl hl.1 rfl (lv_room (Nat.le_of_ble_eq_true rfl)) d_LW_law_480 ⟨(by show _ ≤ 601024; omega), (by show _ ≤ 7293034; omega)⟩) hP hD hS hA (fun r9 L9 f9 H locs hw hP hD hS => ?_)
    obtain ⟨er9, L1, g1, eL1, ho1, hg1, hR1⟩ := hw
    subst er9
    have eL1 : L9 = out :: L1 := eL1
    subst eL1
    refine lv_istore (lv' := [(5, .int 0), (0, .ref b), (1, .ref pm), (2, .ref (A 0)), (3, .ref out), (4, .int (nI (5 * n)))]) hx hb d_LW_law_483 hl (by decide) rfl (fun ls hl => ?_)
    refine lv_aload_n hx hb d_LW_law_485 rfl (lv_at hl 3 rfl) ?_
    refine lv_aload_n hx hb d_LW_law_486 rfl (lv_at hl 1 rfl) ?_
    refine lv_iload hx hb d_LW_law_487 (lv_at hl 5 rfl) ?_
    refine lv_iconst (v := 1) hx hb d_LW_law_489 (by decide) ?_
    refine lv_iadd hx hb d_LW_law_490 ?_
    refine lv_topi (fun x3 ex3 => ?_)
    have ex3 : x3 = nI (5 * n + 1) := ex3.trans (nI_add (5 * n) 1)
    subst ex3
    refine law_sld (j := (5 * n + 1)) (v := (nI k)) hv19 hx hb hX hbl hbA hS (by omega) (by omega) d_LW_law_491 ?_
    refine lv_aload_n hx hb d_LW_law_492 rfl (lv_at hl 1 rfl) ?_
    refine lv_iload hx hb d_LW_law_493 (lv_at hl 5 rfl) ?_
    refine lv_iconst (v := 2) hx hb d_LW_law_495 (by decide) ?_
    refine lv_iadd hx hb d_LW_law_496 ?_
    refine lv_topi (fun x4 ex4 => ?_)
    have ex4 : x4 = nI (5 * n + 2) := ex4.trans (nI_add (5 * n) 2)
    subst ex4
    refine law_sld (j := (5 * n + 2)) (v := (nI n2)) hv29 hx hb hX hbl hbA hS (by omega) (by omega) d_LW_law_497 ?_
    have hP : va_P (gD G) cls9 (va_pl (out :: L1) f9 ++ va_pl (LM A) (mF G A M)) H := va_P.swap (a := []) hP
    have hD : va_D (fun q : Nat => s.heap.size ≤ q) (va_pl (out :: L1) f9 ++ va_pl (LM A) (mF G A M)) := va_D.swap (a := []) hD
    refine pz_cl (va_runV (As := [.int (nI k), .int (nI n2)]) (rest := []) ⟨hx, hb, hml, hown, hts⟩ (c_MD_page l G A hA9 M _ (its, F9, pgs, F, P, T) k n2 hJ hM pg hp9 hn2) (cwV 2 hts (tb_V tw_852 tw_853 tw_854 tw_8 tw_855) rfl rfl rfl (by decide +kernel) ⟨(Nat.le_of_ble_eq_true rfl), (Nat.le_of_ble_eq_true rfl)⟩) (pz_preV (zz_ok _ _ _) hK hP hD hS hA hz (ci := 10) rfl rfl (lm_in (by decide)) (mf_at hA9 M 0 (by decide))) rfl rfl hl.1 rfl (lv_room (Nat.le_of_ble_eq_true rfl)) d_LW_law_498 ⟨(by show _ ≤ 601024; omega), (by show _ ≤ 7293034; omega)⟩) hP hD hS hA (fun r7 L8 f8 H locs hw hP hD hS => ?_)
    obtain ⟨M1, hu, er7, hMR, hth⟩ := hw
    have er7 : r7 = pg_v pg.2 n2 := er7
    subst er7
    have eL8 : L8 = LM A := (Prod.mk.inj hu).1
    have ef8 : f8 = mF G A M1 := (Prod.mk.inj hu).2
    subst eL8
    subst ef8
    refine lv_lstore (lv' := [(6, .long (pg_v pg.2 n2)), (5, .int 0), (0, .ref b), (1, .ref pm), (2, .ref (A 0)), (3, .ref out), (4, .int (nI (5 * n)))]) hx hb d_LW_law_501 hl (by decide) rfl (fun ls hl => ?_)
    refine lv_aload_n hx hb d_LW_law_503 rfl (lv_at hl 4 rfl) ?_
    refine vp_callSi (va_Run.run (va_runV (As := []) (rest := []) ⟨hx, hb, hml, hown, hts⟩ (c_MD_thrown l G A hA9 M1 _) (cwV 0 hts (tb_V tw_762 tw_763 tw_764 tw_8 tw_765) rfl rfl rfl (by decide +kernel) ⟨(Nat.le_of_ble_eq_true rfl), (Nat.le_of_ble_eq_true rfl)⟩) (pz_preV (zz_ok _ _ _) hK hP hD hS hA hz (ci := 10) rfl rfl (lm_in (by decide)) (mf_at hA9 M1 0 (by decide))) rfl rfl hl.1 rfl (lv_room (Nat.le_of_ble_eq_true rfl)) d_LW_law_504 ⟨(by show _ ≤ 601024; omega), (by show _ ≤ 7293034; omega)⟩)) (fun r5 hw => ?_)
    have hw : r5 = 0 := hw.trans hth
    subst hw
    refine lv_iload hx hb d_LW_law_507 (lv_at hl 1 rfl) ?_
    refine lv_icmp_eq (tgt := 514) hx hb d_LW_law_509 (by decide) (fun _ => ?_) (fun c0 => absurd c0 (by decide))
    refine lv_iload hx hb d_LW_law_514 (lv_at hl 1 rfl) ?_
    refine lv_if_ne (tgt := 530) hx hb d_LW_law_516 (by decide) (fun c0 => absurd c0 (by decide)) (fun _ => ?_)
    have hP : va_P (gD G) cls9 (va_pl (LM A) (mF G A M1) ++ va_pl (out :: L1) f9) H := va_P.swap (a := []) hP
    have hD : va_D (fun q : Nat => s.heap.size ≤ q) (va_pl (LM A) (mF G A M1) ++ va_pl (out :: L1) f9) := va_D.swap (a := []) hD
    refine lv_aload_n hx hb d_LW_law_519 rfl (lv_at hl 5 rfl) ?_
    refine lv_iconst (v := 0) hx hb d_LW_law_520 (by decide) ?_
    have hin6 : vp_in 0 1 := vp_in_nI (n := 0) (N := 1) (by decide) (by decide)
    refine pz_lald hx hb hK hP 1 (List.mem_cons_self) ho1 rfl hin6 d_LW_law_521 ?_
    refine lv_topl (fun x7 (ex7 : x7 = g1 0) => ?_)
    subst ex7
    refine lv_lload hx hb d_LW_law_522 (lv_at hl 0 rfl) ?_
    refine pz_leq (tgt := 530) hx hb d_LW_law_524 d_LW_law_525 (by decide) (fun _ => ?_) (fun c0 => absurd hg1 c0)
    refine lv_goto (tgt := 711) hx hb d_LW_law_530 (by decide) ?_
    refine W.widen (k := 22 + 2 * (n + 1) + 7 * pgs.length) (n := 24067 + 904 * (n + 1) + 933 * pgs.length) (by omega) (by omega) ?_
    exact kk L1 f9 M1 (its, F9, pgs, F, P, T) H locs ls ⟨⟨al, ad, el, ed, fr, op, to, sa, fo, xs9, ys, hR1⟩, ⟨g1, ho1⟩, hJ, hMR, by show its.length ≤ n + 1; omega⟩ hP hD hS (lv_sub hl [2, 3, 4, 5, 6] rfl)
  · refine lv_aload_n hx hb d_LW_law_466 rfl (lv_at hl 1 rfl) ?_
    refine lv_aload_n hx hb d_LW_law_467 rfl (lv_at hl 0 rfl) ?_
    refine lv_iload hx hb d_LW_law_468 (lv_at hl 4 rfl) ?_
    refine lv_iconst (v := 1) hx hb d_LW_law_470 (by decide) ?_
    refine lv_iadd hx hb d_LW_law_471 ?_
    refine lv_topi (fun x8 ex8 => ?_)
    have ex8 : x8 = nI (5 * n + 1) := ex8.trans (nI_add (5 * n) 1)
    subst ex8
    refine law_sld (j := (5 * n + 1)) (v := v1) hv19 hx hb hX hbl hbA hS (by omega) (by omega) d_LW_law_472 ?_
    refine lv_aload_n hx hb d_LW_law_473 rfl (lv_at hl 0 rfl) ?_
    refine lv_iload hx hb d_LW_law_474 (lv_at hl 4 rfl) ?_
    refine lv_iconst (v := 2) hx hb d_LW_law_476 (by decide) ?_
    refine lv_iadd hx hb d_LW_law_477 ?_
    refine lv_topi (fun x9 ex9 => ?_)
    have ex9 : x9 = nI (5 * n + 2) := ex9.trans (nI_add (5 * n) 2)
    subst ex9
    refine law_sld (j := (5 * n + 2)) (v := v2) hv29 hx hb hX hbl hbA hS (by omega) (by omega) d_LW_law_478 ?_
    refine lv_aload_n hx hb d_LW_law_479 rfl (lv_at hl 3 rfl) ?_
    refine pz_ci (vx_runSW (As := [.ref pm, .int v1, .int v2, .ref out]) (rest := []) ⟨hx, hb, hml, hown, hts⟩ (x_LW_page l hl9 G L f _ pm al ad el ed fr op to sa fo xs9 ys its F9 pgs F P T out g v1 v2 hR hout hp5 hok) (vx_cwSW 4 hts (tb_SS tw_603 tw_604 tw_0 tw_605) rfl rfl rfl (by decide +kernel) ⟨(Nat.le_of_ble_eq_true rfl), (Nat.le_of_ble_eq_true rfl)⟩) (pz_pre (zz_ok _ _ _) hK hP hD hS hA hz) rfl rfl hl.1 rfl (lv_room (Nat.le_of_ble_eq_true rfl)) d_LW_law_480 ⟨(by show _ ≤ 601024; omega), (by show _ ≤ 7293034; omega)⟩) hP hD hS hA (fun r9 L9 f9 H locs hw hP hD hS => ?_)
    obtain ⟨er9, hu⟩ := hw
    subst er9
    have eL9 : L9 = out :: L := (Prod.mk.inj hu).1
    have ef9 : f9 = f := (Prod.mk.inj hu).2
    rw [eL9, ef9] at hP hD
    refine lv_istore (lv' := [(5, .int 1), (0, .ref b), (1, .ref pm), (2, .ref (A 0)), (3, .ref out), (4, .int (nI (5 * n)))]) hx hb d_LW_law_483 hl (by decide) rfl (fun ls hl => ?_)
    refine lv_aload_n hx hb d_LW_law_485 rfl (lv_at hl 3 rfl) ?_
    refine lv_aload_n hx hb d_LW_law_486 rfl (lv_at hl 1 rfl) ?_
    refine lv_iload hx hb d_LW_law_487 (lv_at hl 5 rfl) ?_
    refine lv_iconst (v := 1) hx hb d_LW_law_489 (by decide) ?_
    refine lv_iadd hx hb d_LW_law_490 ?_
    refine lv_topi (fun x10 ex10 => ?_)
    have ex10 : x10 = nI (5 * n + 1) := ex10.trans (nI_add (5 * n) 1)
    subst ex10
    refine law_sld (j := (5 * n + 1)) (v := v1) hv19 hx hb hX hbl hbA hS (by omega) (by omega) d_LW_law_491 ?_
    refine lv_aload_n hx hb d_LW_law_492 rfl (lv_at hl 1 rfl) ?_
    refine lv_iload hx hb d_LW_law_493 (lv_at hl 5 rfl) ?_
    refine lv_iconst (v := 2) hx hb d_LW_law_495 (by decide) ?_
    refine lv_iadd hx hb d_LW_law_496 ?_
    refine lv_topi (fun x11 ex11 => ?_)
    have ex11 : x11 = nI (5 * n + 2) := ex11.trans (nI_add (5 * n) 2)
    subst ex11
    refine law_sld (j := (5 * n + 2)) (v := v2) hv29 hx hb hX hbl hbA hS (by omega) (by omega) d_LW_law_497 ?_
    have hP : va_P (gD G) cls9 (va_pl (out :: L) f ++ va_pl (LM A) (mF G A M)) H := va_P.swap (a := []) hP
    have hD : va_D (fun q : Nat => s.heap.size ≤ q) (va_pl (out :: L) f ++ va_pl (LM A) (mF G A M)) := va_D.swap (a := []) hD
    refine pz_cl (va_runV (As := [.int v1, .int v2]) (rest := []) ⟨hx, hb, hml, hown, hts⟩ (x_MD_page l G A hA9 M _ (its, F9, pgs, F, P, T) v1 v2 hJ hM hok) (cwV 2 hts (tb_V tw_852 tw_853 tw_854 tw_8 tw_855) rfl rfl rfl (by decide +kernel) ⟨(Nat.le_of_ble_eq_true rfl), (Nat.le_of_ble_eq_true rfl)⟩) (pz_preV (zz_ok _ _ _) hK hP hD hS hA hz (ci := 10) rfl rfl (lm_in (by decide)) (mf_at hA9 M 0 (by decide))) rfl rfl hl.1 rfl (lv_room (Nat.le_of_ble_eq_true rfl)) d_LW_law_498 ⟨(by show _ ≤ 601024; omega), (by show _ ≤ 7293034; omega)⟩) hP hD hS hA (fun r7 L8 f8 H locs hw hP hD hS => ?_)
    obtain ⟨er7, hu⟩ := hw
    subst er7
    have eL8 : L8 = LM A := (Prod.mk.inj hu).1
    have ef8 : f8 = mF G A (M.si 0 1) := (Prod.mk.inj hu).2
    subst eL8
    subst ef8
    refine lv_lstore (lv' := [(6, .long 0), (5, .int 1), (0, .ref b), (1, .ref pm), (2, .ref (A 0)), (3, .ref out), (4, .int (nI (5 * n)))]) hx hb d_LW_law_501 hl (by decide) rfl (fun ls hl => ?_)
    refine lv_aload_n hx hb d_LW_law_503 rfl (lv_at hl 4 rfl) ?_
    refine vp_callSi (va_Run.run (va_runV (As := []) (rest := []) ⟨hx, hb, hml, hown, hts⟩ (c_MD_thrown l G A hA9 (M.si 0 1) _) (cwV 0 hts (tb_V tw_762 tw_763 tw_764 tw_8 tw_765) rfl rfl rfl (by decide +kernel) ⟨(Nat.le_of_ble_eq_true rfl), (Nat.le_of_ble_eq_true rfl)⟩) (pz_preV (zz_ok _ _ _) hK hP hD hS hA hz (ci := 10) rfl rfl (lm_in (by decide)) (mf_at hA9 (M.si 0 1) 0 (by decide))) rfl rfl hl.1 rfl (lv_room (Nat.le_of_ble_eq_true rfl)) d_LW_law_504 ⟨(by show _ ≤ 601024; omega), (by show _ ≤ 7293034; omega)⟩)) (fun r12 hw => ?_)
    have hw : r12 = 1 := hw.trans rfl
    subst hw
    refine lv_iload hx hb d_LW_law_507 (lv_at hl 1 rfl) ?_
    refine lv_icmp_eq (tgt := 514) hx hb d_LW_law_509 (by decide) (fun _ => ?_) (fun c0 => absurd c0 (by decide))
    refine lv_iload hx hb d_LW_law_514 (lv_at hl 1 rfl) ?_
    refine lv_if_ne (tgt := 530) hx hb d_LW_law_516 (by decide) (fun _ => ?_) (fun c0 => absurd c0 (by decide))
    have hP : va_P (gD G) cls9 (va_pl (LM A) (mF G A (M.si 0 1)) ++ va_pl (out :: L) f) H := va_P.swap (a := []) hP
    have hD : va_D (fun q : Nat => s.heap.size ≤ q) (va_pl (LM A) (mF G A (M.si 0 1)) ++ va_pl (out :: L) f) := va_D.swap (a := []) hD
    refine lv_goto (tgt := 711) hx hb d_LW_law_530 (by decide) ?_
    refine W.widen (k := 22 + 2 * (n + 1) + 7 * pgs.length) (n := 24067 + 904 * (n + 1) + 933 * pgs.length) (by omega) (by omega) ?_
    exact kk L f (M.si 0 1) (its, F9, pgs, F, P, T) H locs ls ⟨⟨al, ad, el, ed, fr, op, to, sa, fo, xs9, ys, hR⟩, ⟨g, hout⟩, hJ, mr_th hM, by show its.length ≤ n + 1; omega⟩ hP hD hS (lv_sub hl [2, 3, 4, 5, 6] rfl)
set_option maxHeartbeats 4000000 in
set_option maxRecDepth 100000 in
/-- the law: stands -/
theorem lw_stands {p : Program} {e : Env} {s : State} {m : MethodId} {below : List Frame} {meth : Method} {c : Code} (l : Launch) (hl9 : l.stackTraces = false) {b Ln : Nat} {xs : Nat → Int32} (hL : Ln ≤ 2560) (C0 : lw_At p s m meth c b Ln xs) (G : gG) (hK : va_K (gD G) cls9 (gT G) s) (hz : gZ G (fun q : Nat => s.heap.size ≤ q) s s.heap) (A : Nat → Nat) (hA9 : mJn A) (pm out : Nat) (n : Nat) (hn : 5 * n + 5 ≤ Ln) (L : List Nat) (f : Nat → va_E) (M : MS) (S : CS) (hI : LI G L f pm out M S n) (H : Heap) (locs : List Loc) (hP : va_P (gD G) cls9 (va_pl (LM A) (mF G A M) ++ va_pl (out :: L) f) H) (hD : va_D (fun q : Nat => s.heap.size ≤ q) (va_pl (LM A) (mF G A M) ++ va_pl (out :: L) f)) (hS : va_S (fun q : Nat => s.heap.size ≤ q) s.heap H locs) (ls : Array Slot) (hl : lv_has ls 8 [(0, .ref b), (1, .ref pm), (2, .ref (A 0)), (3, .ref out), (4, .int (nI (5 * n)))]) (kk : ∀ (L1 : List Nat) (f1 : Nat → va_E) (M1 : MS) (S1 : CS) (H1 : Heap) (locs1 : List Loc) (ls1 : Array Slot), LI G L1 f1 pm out M1 S1 (n + 1) → va_P (gD G) cls9 (va_pl (LM A) (mF G A M1) ++ va_pl (out :: L1) f1) H1 → va_D (fun q : Nat => s.heap.size ≤ q) (va_pl (LM A) (mF G A M1) ++ va_pl (out :: L1) f1) → va_S (fun q : Nat => s.heap.size ≤ q) s.heap H1 locs1 → lv_has ls1 8 [(0, .ref b), (1, .ref pm), (2, .ref (A 0)), (3, .ref out), (4, .int (nI (5 * n)))] → W p l e room_1 s m #[Value.ref b] below meth c H1 locs1 (22 + 2 * (n + 1) + 7 * S1.2.2.1.length) (24067 + 904 * (n + 1) + 933 * S1.2.2.1.length) (lw_Z below #[Value.ref b] s) (F0 m 711 ls1 [])) :
    W p l e room_1 s m #[Value.ref b] below meth c H locs (22 + 2 * n + 7 * S.2.2.1.length) (24067 + 904 * n + 933 * S.2.2.1.length) (lw_Z below #[Value.ref b] s) (F0 m 533 ls []) := by
  obtain ⟨hx, hb, hr, hml, hown, hts0, hX, hbl, hlocks, hgv⟩ := id C0
  have hA : ∀ q : Nat, s.heap.size ≤ q → (fun q : Nat => s.heap.size ≤ q) q := fun _ h => h
  have hbA : ¬ (fun q : Nat => s.heap.size ≤ q) b := Nat.not_le.mpr hbl
  have htb : ∀ w ∈ TB, w.before #[Value.ref b] s = true := fun w h => hts0 w (List.mem_filter.mp h).1
  have hts : ∀ w ∈ (Cond.initialized "PageMaker" :: TB), w.before #[Value.ref b] s = true := fun w h => (List.mem_cons.mp h).elim (fun e9 => e9 ▸ htb _ tw_1) (htb w)
  obtain ⟨its, F9, pgs, F, P, T⟩ := S
  obtain ⟨⟨al, ad, el, ed, fr, op, to, sa, fo, xs9, ys, hR⟩, ⟨g, hout⟩, hJ, hM, hln⟩ := id hI
  have hln : its.length ≤ n := hln
  show W p l e room_1 s m #[Value.ref b] below meth c H locs (22 + 2 * n + 7 * pgs.length) (24067 + 904 * n + 933 * pgs.length) (lw_Z below #[Value.ref b] s) (F0 m 533 ls [])
  have hp5 : pgs.length ≤ 512 := j_pgs hJ
  have hn5 : its.length < 512 := by omega
  obtain ⟨v1, hv19⟩ : ∃ v, v = xs (5 * n + 1) := ⟨_, rfl⟩
  obtain ⟨v2, hv29⟩ : ∃ v, v = xs (5 * n + 2) := ⟨_, rfl⟩
  obtain ⟨hpm, hfp, h_al, h_el, hne9, hdd, hX9, hY, -⟩ := id hR
  have hxl : xs9.length = its.length := hX9.1
  have hyl : ys.length = pgs.length := hY.1
  by_cases hok : st_ok its pgs v1 v2
  · obtain ⟨k, i, pg, c0, c1, ek, ei, hp9, hi9, q1, q2⟩ := hok
    subst ek
    subst ei
    have hk : k < pgs.length := (List.getElem?_eq_some_iff.mp hp9).1
    have hi1 : i < its.length := (List.getElem?_eq_some_iff.mp hi9).1
    obtain ⟨y, hy9⟩ : ∃ y, ys[k]? = some y := ⟨_, List.getElem?_eq_getElem (by omega)⟩
    obtain ⟨a, b9, hG⟩ := hJ.2.2.2.1.1 k pg hp9
    obtain ⟨hab, hbn, ⟨b0, b1, hbx⟩, z1, z2, z3, z4, z5, z6, hF⟩ := id hG
    have hbn : b9 ≤ its.length := hbn
    have hai : a ≤ i := (nI_leI (by omega) (by omega)).mp (by rw [← z1]; exact q1)
    have hib : i < b9 := (nI_ltI (by omega) (by omega)).mp (by rw [← z2]; exact q2)
    refine lv_aload_n hx hb d_LW_law_533 rfl (lv_at hl 1 rfl) ?_
    refine lv_aload_n hx hb d_LW_law_534 rfl (lv_at hl 0 rfl) ?_
    refine lv_iload hx hb d_LW_law_535 (lv_at hl 4 rfl) ?_
    refine lv_iconst (v := 1) hx hb d_LW_law_537 (by decide) ?_
    refine lv_iadd hx hb d_LW_law_538 ?_
    refine lv_topi (fun x1 ex1 => ?_)
    have ex1 : x1 = nI (5 * n + 1) := ex1.trans (nI_add (5 * n) 1)
    subst ex1
    refine law_sld (j := (5 * n + 1)) (v := (nI k)) hv19 hx hb hX hbl hbA hS (by omega) (by omega) d_LW_law_539 ?_
    refine lv_aload_n hx hb d_LW_law_540 rfl (lv_at hl 0 rfl) ?_
    refine lv_iload hx hb d_LW_law_541 (lv_at hl 4 rfl) ?_
    refine lv_iconst (v := 2) hx hb d_LW_law_543 (by decide) ?_
    refine lv_iadd hx hb d_LW_law_544 ?_
    refine lv_topi (fun x2 ex2 => ?_)
    have ex2 : x2 = nI (5 * n + 2) := ex2.trans (nI_add (5 * n) 2)
    subst ex2
    refine law_sld (j := (5 * n + 2)) (v := (nI i)) hv29 hx hb hX hbl hbA hS (by omega) (by omega) d_LW_law_545 ?_
    refine lv_aload_n hx hb d_LW_law_546 rfl (lv_at hl 3 rfl) ?_
    refine pz_ci (vx_runSW (As := [.ref pm, .int (nI k), .int (nI i), .ref out]) (rest := []) ⟨hx, hb, hml, hown, hts⟩ (c_LW_stands l G L f _ pm al ad el ed fr op to sa fo xs9 ys its F9 pgs F P T out g k y a i b0 b1 c0 c1 hR hout hp5 (by omega) hy9 pg hp9 z1 hbx hai q2 hi9 (by rw [z5]; exact vp_ord _ _)) (vx_cwSW 4 hts (tb_SS tw_632 tw_633 tw_0 tw_634) rfl rfl rfl (by decide +kernel) ⟨(Nat.le_of_ble_eq_true rfl), (Nat.le_of_ble_eq_true rfl)⟩) (pz_pre (zz_ok _ _ _) hK hP hD hS hA hz) rfl rfl hl.1 rfl (lv_room (Nat.le_of_ble_eq_true rfl)) d_LW_law_547 ⟨(by show _ ≤ 601024; omega), (by show _ ≤ 7293034; omega)⟩) hP hD hS hA (fun r9 L9 f9 H locs hw hP hD hS => ?_)
    obtain ⟨er9, L1, g1, eL1, ho1, hg1, hR1⟩ := hw
    subst er9
    have eL1 : L9 = out :: L1 := eL1
    subst eL1
    refine lv_istore (lv' := [(5, .int 0), (0, .ref b), (1, .ref pm), (2, .ref (A 0)), (3, .ref out), (4, .int (nI (5 * n)))]) hx hb d_LW_law_550 hl (by decide) rfl (fun ls hl => ?_)
    refine lv_aload_n hx hb d_LW_law_552 rfl (lv_at hl 3 rfl) ?_
    refine lv_aload_n hx hb d_LW_law_553 rfl (lv_at hl 1 rfl) ?_
    refine lv_iload hx hb d_LW_law_554 (lv_at hl 5 rfl) ?_
    refine lv_iconst (v := 1) hx hb d_LW_law_556 (by decide) ?_
    refine lv_iadd hx hb d_LW_law_557 ?_
    refine lv_topi (fun x3 ex3 => ?_)
    have ex3 : x3 = nI (5 * n + 1) := ex3.trans (nI_add (5 * n) 1)
    subst ex3
    refine law_sld (j := (5 * n + 1)) (v := (nI k)) hv19 hx hb hX hbl hbA hS (by omega) (by omega) d_LW_law_558 ?_
    refine lv_aload_n hx hb d_LW_law_559 rfl (lv_at hl 1 rfl) ?_
    refine lv_iload hx hb d_LW_law_560 (lv_at hl 5 rfl) ?_
    refine lv_iconst (v := 2) hx hb d_LW_law_562 (by decide) ?_
    refine lv_iadd hx hb d_LW_law_563 ?_
    refine lv_topi (fun x4 ex4 => ?_)
    have ex4 : x4 = nI (5 * n + 2) := ex4.trans (nI_add (5 * n) 2)
    subst ex4
    refine law_sld (j := (5 * n + 2)) (v := (nI i)) hv29 hx hb hX hbl hbA hS (by omega) (by omega) d_LW_law_564 ?_
    have hP : va_P (gD G) cls9 (va_pl (out :: L1) f9 ++ va_pl (LM A) (mF G A M)) H := va_P.swap (a := []) hP
    have hD : va_D (fun q : Nat => s.heap.size ≤ q) (va_pl (out :: L1) f9 ++ va_pl (LM A) (mF G A M)) := va_D.swap (a := []) hD
    refine pz_cl (va_runV (As := [.int (nI k), .int (nI i)]) (rest := []) ⟨hx, hb, hml, hown, hts⟩ (c_MD_stands l G A hA9 M _ (its, F9, pgs, F, P, T) k a b9 i c0 c1 hJ hM pg hp9 hG hai hib hi9) (cwV 2 hts (tb_V tw_864 tw_865 tw_866 tw_8 tw_867) rfl rfl rfl (by decide +kernel) ⟨(Nat.le_of_ble_eq_true rfl), (Nat.le_of_ble_eq_true rfl)⟩) (pz_preV (zz_ok _ _ _) hK hP hD hS hA hz (ci := 10) rfl rfl (lm_in (by decide)) (mf_at hA9 M 0 (by decide))) rfl rfl hl.1 rfl (lv_room (Nat.le_of_ble_eq_true rfl)) d_LW_law_565 ⟨(by show _ ≤ 601024; omega), (by show _ ≤ 7293034; omega)⟩) hP hD hS hA (fun r7 L8 f8 H locs hw hP hD hS => ?_)
    obtain ⟨M1, hu, er7, hMR, hth⟩ := hw
    have er7 : r7 = st_v pg.2 (t_list its pg.1 a i) c0 := er7
    subst er7
    have eL8 : L8 = LM A := (Prod.mk.inj hu).1
    have ef8 : f8 = mF G A M1 := (Prod.mk.inj hu).2
    subst eL8
    subst ef8
    refine lv_lstore (lv' := [(6, .long (st_v pg.2 (t_list its pg.1 a i) c0)), (5, .int 0), (0, .ref b), (1, .ref pm), (2, .ref (A 0)), (3, .ref out), (4, .int (nI (5 * n)))]) hx hb d_LW_law_568 hl (by decide) rfl (fun ls hl => ?_)
    refine lv_aload_n hx hb d_LW_law_570 rfl (lv_at hl 4 rfl) ?_
    refine vp_callSi (va_Run.run (va_runV (As := []) (rest := []) ⟨hx, hb, hml, hown, hts⟩ (c_MD_thrown l G A hA9 M1 _) (cwV 0 hts (tb_V tw_762 tw_763 tw_764 tw_8 tw_765) rfl rfl rfl (by decide +kernel) ⟨(Nat.le_of_ble_eq_true rfl), (Nat.le_of_ble_eq_true rfl)⟩) (pz_preV (zz_ok _ _ _) hK hP hD hS hA hz (ci := 10) rfl rfl (lm_in (by decide)) (mf_at hA9 M1 0 (by decide))) rfl rfl hl.1 rfl (lv_room (Nat.le_of_ble_eq_true rfl)) d_LW_law_571 ⟨(by show _ ≤ 601024; omega), (by show _ ≤ 7293034; omega)⟩)) (fun r5 hw => ?_)
    have hw : r5 = 0 := hw.trans hth
    subst hw
    refine lv_iload hx hb d_LW_law_574 (lv_at hl 1 rfl) ?_
    refine lv_icmp_eq (tgt := 581) hx hb d_LW_law_576 (by decide) (fun _ => ?_) (fun c0 => absurd c0 (by decide))
    refine lv_iload hx hb d_LW_law_581 (lv_at hl 1 rfl) ?_
    refine lv_if_ne (tgt := 597) hx hb d_LW_law_583 (by decide) (fun c0 => absurd c0 (by decide)) (fun _ => ?_)
    have hP : va_P (gD G) cls9 (va_pl (LM A) (mF G A M1) ++ va_pl (out :: L1) f9) H := va_P.swap (a := []) hP
    have hD : va_D (fun q : Nat => s.heap.size ≤ q) (va_pl (LM A) (mF G A M1) ++ va_pl (out :: L1) f9) := va_D.swap (a := []) hD
    refine lv_aload_n hx hb d_LW_law_586 rfl (lv_at hl 5 rfl) ?_
    refine lv_iconst (v := 0) hx hb d_LW_law_587 (by decide) ?_
    have hin6 : vp_in 0 1 := vp_in_nI (n := 0) (N := 1) (by decide) (by decide)
    refine pz_lald hx hb hK hP 1 (List.mem_cons_self) ho1 rfl hin6 d_LW_law_588 ?_
    refine lv_topl (fun x7 (ex7 : x7 = g1 0) => ?_)
    subst ex7
    refine lv_lload hx hb d_LW_law_589 (lv_at hl 0 rfl) ?_
    refine pz_leq (tgt := 597) hx hb d_LW_law_591 d_LW_law_592 (by decide) (fun _ => ?_) (fun c0 => absurd hg1 c0)
    refine lv_goto (tgt := 711) hx hb d_LW_law_597 (by decide) ?_
    refine W.widen (k := 22 + 2 * (n + 1) + 7 * pgs.length) (n := 24067 + 904 * (n + 1) + 933 * pgs.length) (by omega) (by omega) ?_
    exact kk L1 f9 M1 (its, F9, pgs, F, P, T) H locs ls ⟨⟨al, ad, el, ed, fr, op, to, sa, fo, xs9, ys, hR1⟩, ⟨g1, ho1⟩, hJ, hMR, by show its.length ≤ n + 1; omega⟩ hP hD hS (lv_sub hl [2, 3, 4, 5, 6] rfl)
  · refine lv_aload_n hx hb d_LW_law_533 rfl (lv_at hl 1 rfl) ?_
    refine lv_aload_n hx hb d_LW_law_534 rfl (lv_at hl 0 rfl) ?_
    refine lv_iload hx hb d_LW_law_535 (lv_at hl 4 rfl) ?_
    refine lv_iconst (v := 1) hx hb d_LW_law_537 (by decide) ?_
    refine lv_iadd hx hb d_LW_law_538 ?_
    refine lv_topi (fun x8 ex8 => ?_)
    have ex8 : x8 = nI (5 * n + 1) := ex8.trans (nI_add (5 * n) 1)
    subst ex8
    refine law_sld (j := (5 * n + 1)) (v := v1) hv19 hx hb hX hbl hbA hS (by omega) (by omega) d_LW_law_539 ?_
    refine lv_aload_n hx hb d_LW_law_540 rfl (lv_at hl 0 rfl) ?_
    refine lv_iload hx hb d_LW_law_541 (lv_at hl 4 rfl) ?_
    refine lv_iconst (v := 2) hx hb d_LW_law_543 (by decide) ?_
    refine lv_iadd hx hb d_LW_law_544 ?_
    refine lv_topi (fun x9 ex9 => ?_)
    have ex9 : x9 = nI (5 * n + 2) := ex9.trans (nI_add (5 * n) 2)
    subst ex9
    refine law_sld (j := (5 * n + 2)) (v := v2) hv29 hx hb hX hbl hbA hS (by omega) (by omega) d_LW_law_545 ?_
    refine lv_aload_n hx hb d_LW_law_546 rfl (lv_at hl 3 rfl) ?_
    refine pz_ci (vx_runSW (As := [.ref pm, .int v1, .int v2, .ref out]) (rest := []) ⟨hx, hb, hml, hown, hts⟩ (x_LW_stands l hl9 G L f _ pm al ad el ed fr op to sa fo xs9 ys its F9 pgs F P T out g v1 v2 hR hout hp5 (by omega) hok) (vx_cwSW 4 hts (tb_SS tw_632 tw_633 tw_0 tw_634) rfl rfl rfl (by decide +kernel) ⟨(Nat.le_of_ble_eq_true rfl), (Nat.le_of_ble_eq_true rfl)⟩) (pz_pre (zz_ok _ _ _) hK hP hD hS hA hz) rfl rfl hl.1 rfl (lv_room (Nat.le_of_ble_eq_true rfl)) d_LW_law_547 ⟨(by show _ ≤ 601024; omega), (by show _ ≤ 7293034; omega)⟩) hP hD hS hA (fun r9 L9 f9 H locs hw hP hD hS => ?_)
    obtain ⟨er9, hu⟩ := hw
    subst er9
    have eL9 : L9 = out :: L := (Prod.mk.inj hu).1
    have ef9 : f9 = f := (Prod.mk.inj hu).2
    rw [eL9, ef9] at hP hD
    refine lv_istore (lv' := [(5, .int 1), (0, .ref b), (1, .ref pm), (2, .ref (A 0)), (3, .ref out), (4, .int (nI (5 * n)))]) hx hb d_LW_law_550 hl (by decide) rfl (fun ls hl => ?_)
    refine lv_aload_n hx hb d_LW_law_552 rfl (lv_at hl 3 rfl) ?_
    refine lv_aload_n hx hb d_LW_law_553 rfl (lv_at hl 1 rfl) ?_
    refine lv_iload hx hb d_LW_law_554 (lv_at hl 5 rfl) ?_
    refine lv_iconst (v := 1) hx hb d_LW_law_556 (by decide) ?_
    refine lv_iadd hx hb d_LW_law_557 ?_
    refine lv_topi (fun x10 ex10 => ?_)
    have ex10 : x10 = nI (5 * n + 1) := ex10.trans (nI_add (5 * n) 1)
    subst ex10
    refine law_sld (j := (5 * n + 1)) (v := v1) hv19 hx hb hX hbl hbA hS (by omega) (by omega) d_LW_law_558 ?_
    refine lv_aload_n hx hb d_LW_law_559 rfl (lv_at hl 1 rfl) ?_
    refine lv_iload hx hb d_LW_law_560 (lv_at hl 5 rfl) ?_
    refine lv_iconst (v := 2) hx hb d_LW_law_562 (by decide) ?_
    refine lv_iadd hx hb d_LW_law_563 ?_
    refine lv_topi (fun x11 ex11 => ?_)
    have ex11 : x11 = nI (5 * n + 2) := ex11.trans (nI_add (5 * n) 2)
    subst ex11
    refine law_sld (j := (5 * n + 2)) (v := v2) hv29 hx hb hX hbl hbA hS (by omega) (by omega) d_LW_law_564 ?_
    have hP : va_P (gD G) cls9 (va_pl (out :: L) f ++ va_pl (LM A) (mF G A M)) H := va_P.swap (a := []) hP
    have hD : va_D (fun q : Nat => s.heap.size ≤ q) (va_pl (out :: L) f ++ va_pl (LM A) (mF G A M)) := va_D.swap (a := []) hD
    refine pz_cl (va_runV (As := [.int v1, .int v2]) (rest := []) ⟨hx, hb, hml, hown, hts⟩ (x_MD_stands l G A hA9 M _ (its, F9, pgs, F, P, T) v1 v2 hJ hM hok) (cwV 2 hts (tb_V tw_864 tw_865 tw_866 tw_8 tw_867) rfl rfl rfl (by decide +kernel) ⟨(Nat.le_of_ble_eq_true rfl), (Nat.le_of_ble_eq_true rfl)⟩) (pz_preV (zz_ok _ _ _) hK hP hD hS hA hz (ci := 10) rfl rfl (lm_in (by decide)) (mf_at hA9 M 0 (by decide))) rfl rfl hl.1 rfl (lv_room (Nat.le_of_ble_eq_true rfl)) d_LW_law_565 ⟨(by show _ ≤ 601024; omega), (by show _ ≤ 7293034; omega)⟩) hP hD hS hA (fun r7 L8 f8 H locs hw hP hD hS => ?_)
    obtain ⟨er7, hu⟩ := hw
    subst er7
    have eL8 : L8 = LM A := (Prod.mk.inj hu).1
    have ef8 : f8 = mF G A (M.si 0 1) := (Prod.mk.inj hu).2
    subst eL8
    subst ef8
    refine lv_lstore (lv' := [(6, .long 0), (5, .int 1), (0, .ref b), (1, .ref pm), (2, .ref (A 0)), (3, .ref out), (4, .int (nI (5 * n)))]) hx hb d_LW_law_568 hl (by decide) rfl (fun ls hl => ?_)
    refine lv_aload_n hx hb d_LW_law_570 rfl (lv_at hl 4 rfl) ?_
    refine vp_callSi (va_Run.run (va_runV (As := []) (rest := []) ⟨hx, hb, hml, hown, hts⟩ (c_MD_thrown l G A hA9 (M.si 0 1) _) (cwV 0 hts (tb_V tw_762 tw_763 tw_764 tw_8 tw_765) rfl rfl rfl (by decide +kernel) ⟨(Nat.le_of_ble_eq_true rfl), (Nat.le_of_ble_eq_true rfl)⟩) (pz_preV (zz_ok _ _ _) hK hP hD hS hA hz (ci := 10) rfl rfl (lm_in (by decide)) (mf_at hA9 (M.si 0 1) 0 (by decide))) rfl rfl hl.1 rfl (lv_room (Nat.le_of_ble_eq_true rfl)) d_LW_law_571 ⟨(by show _ ≤ 601024; omega), (by show _ ≤ 7293034; omega)⟩)) (fun r12 hw => ?_)
    have hw : r12 = 1 := hw.trans rfl
    subst hw
    refine lv_iload hx hb d_LW_law_574 (lv_at hl 1 rfl) ?_
    refine lv_icmp_eq (tgt := 581) hx hb d_LW_law_576 (by decide) (fun _ => ?_) (fun c0 => absurd c0 (by decide))
    refine lv_iload hx hb d_LW_law_581 (lv_at hl 1 rfl) ?_
    refine lv_if_ne (tgt := 597) hx hb d_LW_law_583 (by decide) (fun _ => ?_) (fun c0 => absurd c0 (by decide))
    have hP : va_P (gD G) cls9 (va_pl (LM A) (mF G A (M.si 0 1)) ++ va_pl (out :: L) f) H := va_P.swap (a := []) hP
    have hD : va_D (fun q : Nat => s.heap.size ≤ q) (va_pl (LM A) (mF G A (M.si 0 1)) ++ va_pl (out :: L) f) := va_D.swap (a := []) hD
    refine lv_goto (tgt := 711) hx hb d_LW_law_597 (by decide) ?_
    refine W.widen (k := 22 + 2 * (n + 1) + 7 * pgs.length) (n := 24067 + 904 * (n + 1) + 933 * pgs.length) (by omega) (by omega) ?_
    exact kk L f (M.si 0 1) (its, F9, pgs, F, P, T) H locs ls ⟨⟨al, ad, el, ed, fr, op, to, sa, fo, xs9, ys, hR⟩, ⟨g, hout⟩, hJ, mr_th hM, by show its.length ≤ n + 1; omega⟩ hP hD hS (lv_sub hl [2, 3, 4, 5, 6] rfl)
set_option maxHeartbeats 4000000 in
set_option maxRecDepth 100000 in
/-- the law: where -/
theorem lw_where {p : Program} {e : Env} {s : State} {m : MethodId} {below : List Frame} {meth : Method} {c : Code} (l : Launch) (hl9 : l.stackTraces = false) {b Ln : Nat} {xs : Nat → Int32} (hL : Ln ≤ 2560) (C0 : lw_At p s m meth c b Ln xs) (G : gG) (hK : va_K (gD G) cls9 (gT G) s) (hz : gZ G (fun q : Nat => s.heap.size ≤ q) s s.heap) (A : Nat → Nat) (hA9 : mJn A) (pm out : Nat) (n : Nat) (hn : 5 * n + 5 ≤ Ln) (L : List Nat) (f : Nat → va_E) (M : MS) (S : CS) (hI : LI G L f pm out M S n) (H : Heap) (locs : List Loc) (hP : va_P (gD G) cls9 (va_pl (LM A) (mF G A M) ++ va_pl (out :: L) f) H) (hD : va_D (fun q : Nat => s.heap.size ≤ q) (va_pl (LM A) (mF G A M) ++ va_pl (out :: L) f)) (hS : va_S (fun q : Nat => s.heap.size ≤ q) s.heap H locs) (ls : Array Slot) (hl : lv_has ls 8 [(0, .ref b), (1, .ref pm), (2, .ref (A 0)), (3, .ref out), (4, .int (nI (5 * n)))]) (kk : ∀ (L1 : List Nat) (f1 : Nat → va_E) (M1 : MS) (S1 : CS) (H1 : Heap) (locs1 : List Loc) (ls1 : Array Slot), LI G L1 f1 pm out M1 S1 (n + 1) → va_P (gD G) cls9 (va_pl (LM A) (mF G A M1) ++ va_pl (out :: L1) f1) H1 → va_D (fun q : Nat => s.heap.size ≤ q) (va_pl (LM A) (mF G A M1) ++ va_pl (out :: L1) f1) → va_S (fun q : Nat => s.heap.size ≤ q) s.heap H1 locs1 → lv_has ls1 8 [(0, .ref b), (1, .ref pm), (2, .ref (A 0)), (3, .ref out), (4, .int (nI (5 * n)))] → W p l e room_1 s m #[Value.ref b] below meth c H1 locs1 (22 + 2 * (n + 1) + 7 * S1.2.2.1.length) (24067 + 904 * (n + 1) + 933 * S1.2.2.1.length) (lw_Z below #[Value.ref b] s) (F0 m 711 ls1 [])) :
    W p l e room_1 s m #[Value.ref b] below meth c H locs (22 + 2 * n + 7 * S.2.2.1.length) (24067 + 904 * n + 933 * S.2.2.1.length) (lw_Z below #[Value.ref b] s) (F0 m 600 ls []) := by
  obtain ⟨hx, hb, hr, hml, hown, hts0, hX, hbl, hlocks, hgv⟩ := id C0
  have hA : ∀ q : Nat, s.heap.size ≤ q → (fun q : Nat => s.heap.size ≤ q) q := fun _ h => h
  have hbA : ¬ (fun q : Nat => s.heap.size ≤ q) b := Nat.not_le.mpr hbl
  have htb : ∀ w ∈ TB, w.before #[Value.ref b] s = true := fun w h => hts0 w (List.mem_filter.mp h).1
  have hts : ∀ w ∈ (Cond.initialized "PageMaker" :: TB), w.before #[Value.ref b] s = true := fun w h => (List.mem_cons.mp h).elim (fun e9 => e9 ▸ htb _ tw_1) (htb w)
  obtain ⟨its, F9, pgs, F, P, T⟩ := S
  obtain ⟨⟨al, ad, el, ed, fr, op, to, sa, fo, xs9, ys, hR⟩, ⟨g, hout⟩, hJ, hM, hln⟩ := id hI
  have hln : its.length ≤ n := hln
  show W p l e room_1 s m #[Value.ref b] below meth c H locs (22 + 2 * n + 7 * pgs.length) (24067 + 904 * n + 933 * pgs.length) (lw_Z below #[Value.ref b] s) (F0 m 600 ls [])
  have hp5 : pgs.length ≤ 512 := j_pgs hJ
  have hn5 : its.length < 512 := by omega
  obtain ⟨v1, hv19⟩ : ∃ v, v = xs (5 * n + 1) := ⟨_, rfl⟩
  obtain ⟨hpm, hfp, h_al, h_el, hne9, hdd, hX9, hY, -⟩ := id hR
  have hxl : xs9.length = its.length := hX9.1
  have hyl : ys.length = pgs.length := hY.1
  by_cases hok : 0 ≤ v1 ∧ v1 < nI its.length
  · refine lv_aload_n hx hb d_LW_law_600 rfl (lv_at hl 1 rfl) ?_
    refine lv_aload_n hx hb d_LW_law_601 rfl (lv_at hl 0 rfl) ?_
    refine lv_iload hx hb d_LW_law_602 (lv_at hl 4 rfl) ?_
    refine lv_iconst (v := 1) hx hb d_LW_law_604 (by decide) ?_
    refine lv_iadd hx hb d_LW_law_605 ?_
    refine lv_topi (fun x1 ex1 => ?_)
    have ex1 : x1 = nI (5 * n + 1) := ex1.trans (nI_add (5 * n) 1)
    subst ex1
    refine law_sld (j := (5 * n + 1)) (v := v1) hv19 hx hb hX hbl hbA hS (by omega) (by omega) d_LW_law_606 ?_
    refine lv_aload_n hx hb d_LW_law_607 rfl (lv_at hl 3 rfl) ?_
    refine pz_ci (vx_runSW (As := [.ref pm, .int v1, .ref out]) (rest := []) ⟨hx, hb, hml, hown, hts⟩ (c_LW_where l G L f _ pm al ad el ed fr op to sa fo xs9 ys its F9 pgs F P T out g v1 hR hout hp5 hok) (vx_cwSW 3 hts (tb_SS tw_656 tw_657 tw_0 tw_658) rfl rfl rfl (by decide +kernel) ⟨(Nat.le_of_ble_eq_true rfl), (Nat.le_of_ble_eq_true rfl)⟩) (pz_pre (zz_ok _ _ _) hK hP hD hS hA hz) rfl rfl hl.1 rfl (lv_room (Nat.le_of_ble_eq_true rfl)) d_LW_law_608 ⟨(by show _ ≤ 601024; omega), (by show _ ≤ 7293034; omega)⟩) hP hD hS hA (fun r9 L9 f9 H locs hw hP hD hS => ?_)
    obtain ⟨er9, L1, g1, eL1, ho1, hg1, hR1⟩ := hw
    subst er9
    have eL1 : L9 = out :: L1 := eL1
    subst eL1
    refine lv_istore (lv' := [(5, .int 0), (0, .ref b), (1, .ref pm), (2, .ref (A 0)), (3, .ref out), (4, .int (nI (5 * n)))]) hx hb d_LW_law_611 hl (by decide) rfl (fun ls hl => ?_)
    refine lv_aload_n hx hb d_LW_law_613 rfl (lv_at hl 3 rfl) ?_
    refine lv_aload_n hx hb d_LW_law_614 rfl (lv_at hl 1 rfl) ?_
    refine lv_iload hx hb d_LW_law_615 (lv_at hl 5 rfl) ?_
    refine lv_iconst (v := 1) hx hb d_LW_law_617 (by decide) ?_
    refine lv_iadd hx hb d_LW_law_618 ?_
    refine lv_topi (fun x2 ex2 => ?_)
    have ex2 : x2 = nI (5 * n + 1) := ex2.trans (nI_add (5 * n) 1)
    subst ex2
    refine law_sld (j := (5 * n + 1)) (v := v1) hv19 hx hb hX hbl hbA hS (by omega) (by omega) d_LW_law_619 ?_
    have hP : va_P (gD G) cls9 (va_pl (out :: L1) f9 ++ va_pl (LM A) (mF G A M)) H := va_P.swap (a := []) hP
    have hD : va_D (fun q : Nat => s.heap.size ≤ q) (va_pl (out :: L1) f9 ++ va_pl (LM A) (mF G A M)) := va_D.swap (a := []) hD
    refine pz_ci (va_runV (As := [.int v1]) (rest := []) ⟨hx, hb, hml, hown, hts⟩ (c_MD_where l G A hA9 M _ (its, F9, pgs, F, P, T) v1 hJ hM hok) (cwV 1 hts (tb_V tw_873 tw_874 tw_875 tw_8 tw_876) rfl rfl rfl (by decide +kernel) ⟨(Nat.le_of_ble_eq_true rfl), (Nat.le_of_ble_eq_true rfl)⟩) (pz_preV (zz_ok _ _ _) hK hP hD hS hA hz (ci := 10) rfl rfl (lm_in (by decide)) (mf_at hA9 M 0 (by decide))) rfl rfl hl.1 rfl (lv_room (Nat.le_of_ble_eq_true rfl)) d_LW_law_620 ⟨(by show _ ≤ 601024; omega), (by show _ ≤ 7293034; omega)⟩) hP hD hS hA (fun r7 L8 f8 H locs hw hP hD hS => ?_)
    obtain ⟨er7, hu⟩ := hw
    have er7 : r7 = wh_v pgs v1 0 := er7
    subst er7
    have eL8 : L8 = LM A := (Prod.mk.inj hu).1
    have ef8 : f8 = mF G A (M.si 0 0) := (Prod.mk.inj hu).2
    subst eL8
    subst ef8
    have hMR : MR (M.si 0 0) (its, F9, pgs, F, P, T) := mr_th hM
    have hth : (M.si 0 0).th = 0 := rfl
    refine lv_istore (lv' := [(6, .int (wh_v pgs v1 0)), (5, .int 0), (0, .ref b), (1, .ref pm), (2, .ref (A 0)), (3, .ref out), (4, .int (nI (5 * n)))]) hx hb d_LW_law_623 hl (by decide) rfl (fun ls hl => ?_)
    refine lv_aload_n hx hb d_LW_law_625 rfl (lv_at hl 4 rfl) ?_
    refine vp_callSi (va_Run.run (va_runV (As := []) (rest := []) ⟨hx, hb, hml, hown, hts⟩ (c_MD_thrown l G A hA9 (M.si 0 0) _) (cwV 0 hts (tb_V tw_762 tw_763 tw_764 tw_8 tw_765) rfl rfl rfl (by decide +kernel) ⟨(Nat.le_of_ble_eq_true rfl), (Nat.le_of_ble_eq_true rfl)⟩) (pz_preV (zz_ok _ _ _) hK hP hD hS hA hz (ci := 10) rfl rfl (lm_in (by decide)) (mf_at hA9 (M.si 0 0) 0 (by decide))) rfl rfl hl.1 rfl (lv_room (Nat.le_of_ble_eq_true rfl)) d_LW_law_626 ⟨(by show _ ≤ 601024; omega), (by show _ ≤ 7293034; omega)⟩)) (fun r3 hw => ?_)
    have hw : r3 = 0 := hw.trans hth
    subst hw
    refine lv_iload hx hb d_LW_law_629 (lv_at hl 1 rfl) ?_
    refine lv_icmp_eq (tgt := 636) hx hb d_LW_law_631 (by decide) (fun _ => ?_) (fun c0 => absurd c0 (by decide))
    refine lv_iload hx hb d_LW_law_636 (lv_at hl 1 rfl) ?_
    refine lv_if_ne (tgt := 653) hx hb d_LW_law_638 (by decide) (fun c0 => absurd c0 (by decide)) (fun _ => ?_)
    have hP : va_P (gD G) cls9 (va_pl (LM A) (mF G A (M.si 0 0)) ++ va_pl (out :: L1) f9) H := va_P.swap (a := []) hP
    have hD : va_D (fun q : Nat => s.heap.size ≤ q) (va_pl (LM A) (mF G A (M.si 0 0)) ++ va_pl (out :: L1) f9) := va_D.swap (a := []) hD
    refine lv_aload_n hx hb d_LW_law_641 rfl (lv_at hl 5 rfl) ?_
    refine lv_iconst (v := 0) hx hb d_LW_law_642 (by decide) ?_
    have hin4 : vp_in 0 1 := vp_in_nI (n := 0) (N := 1) (by decide) (by decide)
    refine pz_lald hx hb hK hP 1 (List.mem_cons_self) ho1 rfl hin4 d_LW_law_643 ?_
    refine lv_topl (fun x5 (ex5 : x5 = g1 0) => ?_)
    subst ex5
    refine lv_iload hx hb d_LW_law_644 (lv_at hl 0 rfl) ?_
    refine lv_i2l hx hb d_LW_law_646 rfl ?_
    refine pz_leq (tgt := 653) hx hb d_LW_law_647 d_LW_law_648 (by decide) (fun _ => ?_) (fun c0 => absurd hg1 c0)
    refine lv_goto (tgt := 711) hx hb d_LW_law_653 (by decide) ?_
    refine W.widen (k := 22 + 2 * (n + 1) + 7 * pgs.length) (n := 24067 + 904 * (n + 1) + 933 * pgs.length) (by omega) (by omega) ?_
    exact kk L1 f9 (M.si 0 0) (its, F9, pgs, F, P, T) H locs ls ⟨⟨al, ad, el, ed, fr, op, to, sa, fo, xs9, ys, hR1⟩, ⟨g1, ho1⟩, hJ, hMR, by show its.length ≤ n + 1; omega⟩ hP hD hS (lv_sub hl [2, 3, 4, 5, 6] rfl)
  · refine lv_aload_n hx hb d_LW_law_600 rfl (lv_at hl 1 rfl) ?_
    refine lv_aload_n hx hb d_LW_law_601 rfl (lv_at hl 0 rfl) ?_
    refine lv_iload hx hb d_LW_law_602 (lv_at hl 4 rfl) ?_
    refine lv_iconst (v := 1) hx hb d_LW_law_604 (by decide) ?_
    refine lv_iadd hx hb d_LW_law_605 ?_
    refine lv_topi (fun x6 ex6 => ?_)
    have ex6 : x6 = nI (5 * n + 1) := ex6.trans (nI_add (5 * n) 1)
    subst ex6
    refine law_sld (j := (5 * n + 1)) (v := v1) hv19 hx hb hX hbl hbA hS (by omega) (by omega) d_LW_law_606 ?_
    refine lv_aload_n hx hb d_LW_law_607 rfl (lv_at hl 3 rfl) ?_
    refine pz_ci (vx_runSW (As := [.ref pm, .int v1, .ref out]) (rest := []) ⟨hx, hb, hml, hown, hts⟩ (x_LW_where l hl9 G L f _ pm al ad el ed fr op to sa fo xs9 ys its F9 pgs F P T out g v1 hR hout hok) (vx_cwSW 3 hts (tb_SS tw_656 tw_657 tw_0 tw_658) rfl rfl rfl (by decide +kernel) ⟨(Nat.le_of_ble_eq_true rfl), (Nat.le_of_ble_eq_true rfl)⟩) (pz_pre (zz_ok _ _ _) hK hP hD hS hA hz) rfl rfl hl.1 rfl (lv_room (Nat.le_of_ble_eq_true rfl)) d_LW_law_608 ⟨(by show _ ≤ 601024; omega), (by show _ ≤ 7293034; omega)⟩) hP hD hS hA (fun r9 L9 f9 H locs hw hP hD hS => ?_)
    obtain ⟨er9, hu⟩ := hw
    subst er9
    have eL9 : L9 = out :: L := (Prod.mk.inj hu).1
    have ef9 : f9 = f := (Prod.mk.inj hu).2
    rw [eL9, ef9] at hP hD
    refine lv_istore (lv' := [(5, .int 1), (0, .ref b), (1, .ref pm), (2, .ref (A 0)), (3, .ref out), (4, .int (nI (5 * n)))]) hx hb d_LW_law_611 hl (by decide) rfl (fun ls hl => ?_)
    refine lv_aload_n hx hb d_LW_law_613 rfl (lv_at hl 3 rfl) ?_
    refine lv_aload_n hx hb d_LW_law_614 rfl (lv_at hl 1 rfl) ?_
    refine lv_iload hx hb d_LW_law_615 (lv_at hl 5 rfl) ?_
    refine lv_iconst (v := 1) hx hb d_LW_law_617 (by decide) ?_
    refine lv_iadd hx hb d_LW_law_618 ?_
    refine lv_topi (fun x7 ex7 => ?_)
    have ex7 : x7 = nI (5 * n + 1) := ex7.trans (nI_add (5 * n) 1)
    subst ex7
    refine law_sld (j := (5 * n + 1)) (v := v1) hv19 hx hb hX hbl hbA hS (by omega) (by omega) d_LW_law_619 ?_
    have hP : va_P (gD G) cls9 (va_pl (out :: L) f ++ va_pl (LM A) (mF G A M)) H := va_P.swap (a := []) hP
    have hD : va_D (fun q : Nat => s.heap.size ≤ q) (va_pl (out :: L) f ++ va_pl (LM A) (mF G A M)) := va_D.swap (a := []) hD
    refine pz_ci (va_runV (As := [.int v1]) (rest := []) ⟨hx, hb, hml, hown, hts⟩ (x_MD_where l G A hA9 M _ (its, F9, pgs, F, P, T) v1 hJ hM hok) (cwV 1 hts (tb_V tw_873 tw_874 tw_875 tw_8 tw_876) rfl rfl rfl (by decide +kernel) ⟨(Nat.le_of_ble_eq_true rfl), (Nat.le_of_ble_eq_true rfl)⟩) (pz_preV (zz_ok _ _ _) hK hP hD hS hA hz (ci := 10) rfl rfl (lm_in (by decide)) (mf_at hA9 M 0 (by decide))) rfl rfl hl.1 rfl (lv_room (Nat.le_of_ble_eq_true rfl)) d_LW_law_620 ⟨(by show _ ≤ 601024; omega), (by show _ ≤ 7293034; omega)⟩) hP hD hS hA (fun r7 L8 f8 H locs hw hP hD hS => ?_)
    obtain ⟨er7, hu⟩ := hw
    subst er7
    have eL8 : L8 = LM A := (Prod.mk.inj hu).1
    have ef8 : f8 = mF G A (M.si 0 1) := (Prod.mk.inj hu).2
    subst eL8
    subst ef8
    refine lv_istore (lv' := [(6, .int 0), (5, .int 1), (0, .ref b), (1, .ref pm), (2, .ref (A 0)), (3, .ref out), (4, .int (nI (5 * n)))]) hx hb d_LW_law_623 hl (by decide) rfl (fun ls hl => ?_)
    refine lv_aload_n hx hb d_LW_law_625 rfl (lv_at hl 4 rfl) ?_
    refine vp_callSi (va_Run.run (va_runV (As := []) (rest := []) ⟨hx, hb, hml, hown, hts⟩ (c_MD_thrown l G A hA9 (M.si 0 1) _) (cwV 0 hts (tb_V tw_762 tw_763 tw_764 tw_8 tw_765) rfl rfl rfl (by decide +kernel) ⟨(Nat.le_of_ble_eq_true rfl), (Nat.le_of_ble_eq_true rfl)⟩) (pz_preV (zz_ok _ _ _) hK hP hD hS hA hz (ci := 10) rfl rfl (lm_in (by decide)) (mf_at hA9 (M.si 0 1) 0 (by decide))) rfl rfl hl.1 rfl (lv_room (Nat.le_of_ble_eq_true rfl)) d_LW_law_626 ⟨(by show _ ≤ 601024; omega), (by show _ ≤ 7293034; omega)⟩)) (fun r8 hw => ?_)
    have hw : r8 = 1 := hw.trans rfl
    subst hw
    refine lv_iload hx hb d_LW_law_629 (lv_at hl 1 rfl) ?_
    refine lv_icmp_eq (tgt := 636) hx hb d_LW_law_631 (by decide) (fun _ => ?_) (fun c0 => absurd c0 (by decide))
    refine lv_iload hx hb d_LW_law_636 (lv_at hl 1 rfl) ?_
    refine lv_if_ne (tgt := 653) hx hb d_LW_law_638 (by decide) (fun _ => ?_) (fun c0 => absurd c0 (by decide))
    have hP : va_P (gD G) cls9 (va_pl (LM A) (mF G A (M.si 0 1)) ++ va_pl (out :: L) f) H := va_P.swap (a := []) hP
    have hD : va_D (fun q : Nat => s.heap.size ≤ q) (va_pl (LM A) (mF G A (M.si 0 1)) ++ va_pl (out :: L) f) := va_D.swap (a := []) hD
    refine lv_goto (tgt := 711) hx hb d_LW_law_653 (by decide) ?_
    refine W.widen (k := 22 + 2 * (n + 1) + 7 * pgs.length) (n := 24067 + 904 * (n + 1) + 933 * pgs.length) (by omega) (by omega) ?_
    exact kk L f (M.si 0 1) (its, F9, pgs, F, P, T) H locs ls ⟨⟨al, ad, el, ed, fr, op, to, sa, fo, xs9, ys, hR⟩, ⟨g, hout⟩, hJ, mr_th hM, by show its.length ≤ n + 1; omega⟩ hP hD hS (lv_sub hl [2, 3, 4, 5, 6] rfl)
set_option maxHeartbeats 4000000 in
set_option maxRecDepth 100000 in
/-- the law: open -/
theorem lw_open {p : Program} {e : Env} {s : State} {m : MethodId} {below : List Frame} {meth : Method} {c : Code} (l : Launch) (hl9 : l.stackTraces = false) {b Ln : Nat} {xs : Nat → Int32} (hL : Ln ≤ 2560) (C0 : lw_At p s m meth c b Ln xs) (G : gG) (hK : va_K (gD G) cls9 (gT G) s) (hz : gZ G (fun q : Nat => s.heap.size ≤ q) s s.heap) (A : Nat → Nat) (hA9 : mJn A) (pm out : Nat) (n : Nat) (hn : 5 * n + 5 ≤ Ln) (L : List Nat) (f : Nat → va_E) (M : MS) (S : CS) (hI : LI G L f pm out M S n) (H : Heap) (locs : List Loc) (hP : va_P (gD G) cls9 (va_pl (LM A) (mF G A M) ++ va_pl (out :: L) f) H) (hD : va_D (fun q : Nat => s.heap.size ≤ q) (va_pl (LM A) (mF G A M) ++ va_pl (out :: L) f)) (hS : va_S (fun q : Nat => s.heap.size ≤ q) s.heap H locs) (ls : Array Slot) (hl : lv_has ls 8 [(0, .ref b), (1, .ref pm), (2, .ref (A 0)), (3, .ref out), (4, .int (nI (5 * n)))]) (kk : ∀ (L1 : List Nat) (f1 : Nat → va_E) (M1 : MS) (S1 : CS) (H1 : Heap) (locs1 : List Loc) (ls1 : Array Slot), LI G L1 f1 pm out M1 S1 (n + 1) → va_P (gD G) cls9 (va_pl (LM A) (mF G A M1) ++ va_pl (out :: L1) f1) H1 → va_D (fun q : Nat => s.heap.size ≤ q) (va_pl (LM A) (mF G A M1) ++ va_pl (out :: L1) f1) → va_S (fun q : Nat => s.heap.size ≤ q) s.heap H1 locs1 → lv_has ls1 8 [(0, .ref b), (1, .ref pm), (2, .ref (A 0)), (3, .ref out), (4, .int (nI (5 * n)))] → W p l e room_1 s m #[Value.ref b] below meth c H1 locs1 (22 + 2 * (n + 1) + 7 * S1.2.2.1.length) (24067 + 904 * (n + 1) + 933 * S1.2.2.1.length) (lw_Z below #[Value.ref b] s) (F0 m 711 ls1 [])) :
    W p l e room_1 s m #[Value.ref b] below meth c H locs (22 + 2 * n + 7 * S.2.2.1.length) (24067 + 904 * n + 933 * S.2.2.1.length) (lw_Z below #[Value.ref b] s) (F0 m 656 ls []) := by
  obtain ⟨hx, hb, hr, hml, hown, hts0, hX, hbl, hlocks, hgv⟩ := id C0
  have hA : ∀ q : Nat, s.heap.size ≤ q → (fun q : Nat => s.heap.size ≤ q) q := fun _ h => h
  have hbA : ¬ (fun q : Nat => s.heap.size ≤ q) b := Nat.not_le.mpr hbl
  have htb : ∀ w ∈ TB, w.before #[Value.ref b] s = true := fun w h => hts0 w (List.mem_filter.mp h).1
  have hts : ∀ w ∈ (Cond.initialized "PageMaker" :: TB), w.before #[Value.ref b] s = true := fun w h => (List.mem_cons.mp h).elim (fun e9 => e9 ▸ htb _ tw_1) (htb w)
  obtain ⟨its, F9, pgs, F, P, T⟩ := S
  obtain ⟨⟨al, ad, el, ed, fr, op, to, sa, fo, xs9, ys, hR⟩, ⟨g, hout⟩, hJ, hM, hln⟩ := id hI
  have hln : its.length ≤ n := hln
  show W p l e room_1 s m #[Value.ref b] below meth c H locs (22 + 2 * n + 7 * pgs.length) (24067 + 904 * n + 933 * pgs.length) (lw_Z below #[Value.ref b] s) (F0 m 656 ls [])
  have hp5 : pgs.length ≤ 512 := j_pgs hJ
  have hn5 : its.length < 512 := by omega
  obtain ⟨v1, hv19⟩ : ∃ v, v = xs (5 * n + 1) := ⟨_, rfl⟩
  obtain ⟨hpm, hfp, h_al, h_el, hne9, hdd, hX9, hY, -⟩ := id hR
  have hxl : xs9.length = its.length := hX9.1
  have hyl : ys.length = pgs.length := hY.1
  by_cases hok : 0 ≤ v1 ∧ v1 < 10
  · obtain ⟨n2, hn2, en2⟩ := k_idx (n := 10) hok (by decide)
    subst en2
    refine lv_aload_n hx hb d_LW_law_656 rfl (lv_at hl 1 rfl) ?_
    refine lv_aload_n hx hb d_LW_law_657 rfl (lv_at hl 0 rfl) ?_
    refine lv_iload hx hb d_LW_law_658 (lv_at hl 4 rfl) ?_
    refine lv_iconst (v := 1) hx hb d_LW_law_660 (by decide) ?_
    refine lv_iadd hx hb d_LW_law_661 ?_
    refine lv_topi (fun x1 ex1 => ?_)
    have ex1 : x1 = nI (5 * n + 1) := ex1.trans (nI_add (5 * n) 1)
    subst ex1
    refine law_sld (j := (5 * n + 1)) (v := (nI n2)) hv19 hx hb hX hbl hbA hS (by omega) (by omega) d_LW_law_662 ?_
    refine lv_aload_n hx hb d_LW_law_663 rfl (lv_at hl 3 rfl) ?_
    refine pz_ci (vx_runSW (As := [.ref pm, .int (nI n2), .ref out]) (rest := []) ⟨hx, hb, hml, hown, hts⟩ (c_LW_open l G L f _ pm al ad el ed fr op to sa fo xs9 ys its F9 pgs F P T out g n2 hR hout hn2) (vx_cwSW 3 hts (tb_SS tw_664 tw_665 tw_0 tw_666) rfl rfl rfl (by decide +kernel) ⟨(Nat.le_of_ble_eq_true rfl), (Nat.le_of_ble_eq_true rfl)⟩) (pz_pre (zz_ok _ _ _) hK hP hD hS hA hz) rfl rfl hl.1 rfl (lv_room (Nat.le_of_ble_eq_true rfl)) d_LW_law_664 ⟨(by show _ ≤ 601024; omega), (by show _ ≤ 7293034; omega)⟩) hP hD hS hA (fun r9 L9 f9 H locs hw hP hD hS => ?_)
    obtain ⟨er9, L1, g1, eL1, ho1, hg1, hR1⟩ := hw
    subst er9
    have eL1 : L9 = out :: L1 := eL1
    subst eL1
    refine lv_istore (lv' := [(5, .int 0), (0, .ref b), (1, .ref pm), (2, .ref (A 0)), (3, .ref out), (4, .int (nI (5 * n)))]) hx hb d_LW_law_667 hl (by decide) rfl (fun ls hl => ?_)
    refine lv_aload_n hx hb d_LW_law_669 rfl (lv_at hl 3 rfl) ?_
    refine lv_aload_n hx hb d_LW_law_670 rfl (lv_at hl 1 rfl) ?_
    refine lv_iload hx hb d_LW_law_671 (lv_at hl 5 rfl) ?_
    refine lv_iconst (v := 1) hx hb d_LW_law_673 (by decide) ?_
    refine lv_iadd hx hb d_LW_law_674 ?_
    refine lv_topi (fun x2 ex2 => ?_)
    have ex2 : x2 = nI (5 * n + 1) := ex2.trans (nI_add (5 * n) 1)
    subst ex2
    refine law_sld (j := (5 * n + 1)) (v := (nI n2)) hv19 hx hb hX hbl hbA hS (by omega) (by omega) d_LW_law_675 ?_
    have hP : va_P (gD G) cls9 (va_pl (out :: L1) f9 ++ va_pl (LM A) (mF G A M)) H := va_P.swap (a := []) hP
    have hD : va_D (fun q : Nat => s.heap.size ≤ q) (va_pl (out :: L1) f9 ++ va_pl (LM A) (mF G A M)) := va_D.swap (a := []) hD
    refine pz_cl (va_runV (As := [.int (nI n2)]) (rest := []) ⟨hx, hb, hml, hown, hts⟩ (c_MD_open l G A hA9 M _ (its, F9, pgs, F, P, T) n2 hJ hM hn2) (cwV 1 hts (tb_V tw_877 tw_878 tw_879 tw_8 tw_880) rfl rfl rfl (by decide +kernel) ⟨(Nat.le_of_ble_eq_true rfl), (Nat.le_of_ble_eq_true rfl)⟩) (pz_preV (zz_ok _ _ _) hK hP hD hS hA hz (ci := 10) rfl rfl (lm_in (by decide)) (mf_at hA9 M 0 (by decide))) rfl rfl hl.1 rfl (lv_room (Nat.le_of_ble_eq_true rfl)) d_LW_law_676 ⟨(by show _ ≤ 601024; omega), (by show _ ≤ 7293034; omega)⟩) hP hD hS hA (fun r7 L8 f8 H locs hw hP hD hS => ?_)
    obtain ⟨M1, hu, er7, hMR, hth⟩ := hw
    have er7 : r7 = op_v P T n2 := er7
    subst er7
    have eL8 : L8 = LM A := (Prod.mk.inj hu).1
    have ef8 : f8 = mF G A M1 := (Prod.mk.inj hu).2
    subst eL8
    subst ef8
    refine lv_lstore (lv' := [(6, .long (op_v P T n2)), (5, .int 0), (0, .ref b), (1, .ref pm), (2, .ref (A 0)), (3, .ref out), (4, .int (nI (5 * n)))]) hx hb d_LW_law_679 hl (by decide) rfl (fun ls hl => ?_)
    refine lv_aload_n hx hb d_LW_law_681 rfl (lv_at hl 4 rfl) ?_
    refine vp_callSi (va_Run.run (va_runV (As := []) (rest := []) ⟨hx, hb, hml, hown, hts⟩ (c_MD_thrown l G A hA9 M1 _) (cwV 0 hts (tb_V tw_762 tw_763 tw_764 tw_8 tw_765) rfl rfl rfl (by decide +kernel) ⟨(Nat.le_of_ble_eq_true rfl), (Nat.le_of_ble_eq_true rfl)⟩) (pz_preV (zz_ok _ _ _) hK hP hD hS hA hz (ci := 10) rfl rfl (lm_in (by decide)) (mf_at hA9 M1 0 (by decide))) rfl rfl hl.1 rfl (lv_room (Nat.le_of_ble_eq_true rfl)) d_LW_law_682 ⟨(by show _ ≤ 601024; omega), (by show _ ≤ 7293034; omega)⟩)) (fun r3 hw => ?_)
    have hw : r3 = 0 := hw.trans hth
    subst hw
    refine lv_iload hx hb d_LW_law_685 (lv_at hl 1 rfl) ?_
    refine lv_icmp_eq (tgt := 692) hx hb d_LW_law_687 (by decide) (fun _ => ?_) (fun c0 => absurd c0 (by decide))
    refine lv_iload hx hb d_LW_law_692 (lv_at hl 1 rfl) ?_
    refine lv_if_ne (tgt := 708) hx hb d_LW_law_694 (by decide) (fun c0 => absurd c0 (by decide)) (fun _ => ?_)
    have hP : va_P (gD G) cls9 (va_pl (LM A) (mF G A M1) ++ va_pl (out :: L1) f9) H := va_P.swap (a := []) hP
    have hD : va_D (fun q : Nat => s.heap.size ≤ q) (va_pl (LM A) (mF G A M1) ++ va_pl (out :: L1) f9) := va_D.swap (a := []) hD
    refine lv_aload_n hx hb d_LW_law_697 rfl (lv_at hl 5 rfl) ?_
    refine lv_iconst (v := 0) hx hb d_LW_law_698 (by decide) ?_
    have hin4 : vp_in 0 1 := vp_in_nI (n := 0) (N := 1) (by decide) (by decide)
    refine pz_lald hx hb hK hP 1 (List.mem_cons_self) ho1 rfl hin4 d_LW_law_699 ?_
    refine lv_topl (fun x5 (ex5 : x5 = g1 0) => ?_)
    subst ex5
    refine lv_lload hx hb d_LW_law_700 (lv_at hl 0 rfl) ?_
    refine pz_leq (tgt := 708) hx hb d_LW_law_702 d_LW_law_703 (by decide) (fun _ => ?_) (fun c0 => absurd hg1 c0)
    refine lv_goto (tgt := 711) hx hb d_LW_law_708 (by decide) ?_
    refine W.widen (k := 22 + 2 * (n + 1) + 7 * pgs.length) (n := 24067 + 904 * (n + 1) + 933 * pgs.length) (by omega) (by omega) ?_
    exact kk L1 f9 M1 (its, F9, pgs, F, P, T) H locs ls ⟨⟨al, ad, el, ed, fr, op, to, sa, fo, xs9, ys, hR1⟩, ⟨g1, ho1⟩, hJ, hMR, by show its.length ≤ n + 1; omega⟩ hP hD hS (lv_sub hl [2, 3, 4, 5, 6] rfl)
  · refine lv_aload_n hx hb d_LW_law_656 rfl (lv_at hl 1 rfl) ?_
    refine lv_aload_n hx hb d_LW_law_657 rfl (lv_at hl 0 rfl) ?_
    refine lv_iload hx hb d_LW_law_658 (lv_at hl 4 rfl) ?_
    refine lv_iconst (v := 1) hx hb d_LW_law_660 (by decide) ?_
    refine lv_iadd hx hb d_LW_law_661 ?_
    refine lv_topi (fun x6 ex6 => ?_)
    have ex6 : x6 = nI (5 * n + 1) := ex6.trans (nI_add (5 * n) 1)
    subst ex6
    refine law_sld (j := (5 * n + 1)) (v := v1) hv19 hx hb hX hbl hbA hS (by omega) (by omega) d_LW_law_662 ?_
    refine lv_aload_n hx hb d_LW_law_663 rfl (lv_at hl 3 rfl) ?_
    refine pz_ci (vx_runSW (As := [.ref pm, .int v1, .ref out]) (rest := []) ⟨hx, hb, hml, hown, hts⟩ (x_LW_open l hl9 G L f _ pm al ad el ed fr op to sa fo xs9 ys its F9 pgs F P T out g v1 hR hout hok) (vx_cwSW 3 hts (tb_SS tw_664 tw_665 tw_0 tw_666) rfl rfl rfl (by decide +kernel) ⟨(Nat.le_of_ble_eq_true rfl), (Nat.le_of_ble_eq_true rfl)⟩) (pz_pre (zz_ok _ _ _) hK hP hD hS hA hz) rfl rfl hl.1 rfl (lv_room (Nat.le_of_ble_eq_true rfl)) d_LW_law_664 ⟨(by show _ ≤ 601024; omega), (by show _ ≤ 7293034; omega)⟩) hP hD hS hA (fun r9 L9 f9 H locs hw hP hD hS => ?_)
    obtain ⟨er9, hu⟩ := hw
    subst er9
    have eL9 : L9 = out :: L := (Prod.mk.inj hu).1
    have ef9 : f9 = f := (Prod.mk.inj hu).2
    rw [eL9, ef9] at hP hD
    refine lv_istore (lv' := [(5, .int 1), (0, .ref b), (1, .ref pm), (2, .ref (A 0)), (3, .ref out), (4, .int (nI (5 * n)))]) hx hb d_LW_law_667 hl (by decide) rfl (fun ls hl => ?_)
    refine lv_aload_n hx hb d_LW_law_669 rfl (lv_at hl 3 rfl) ?_
    refine lv_aload_n hx hb d_LW_law_670 rfl (lv_at hl 1 rfl) ?_
    refine lv_iload hx hb d_LW_law_671 (lv_at hl 5 rfl) ?_
    refine lv_iconst (v := 1) hx hb d_LW_law_673 (by decide) ?_
    refine lv_iadd hx hb d_LW_law_674 ?_
    refine lv_topi (fun x7 ex7 => ?_)
    have ex7 : x7 = nI (5 * n + 1) := ex7.trans (nI_add (5 * n) 1)
    subst ex7
    refine law_sld (j := (5 * n + 1)) (v := v1) hv19 hx hb hX hbl hbA hS (by omega) (by omega) d_LW_law_675 ?_
    have hP : va_P (gD G) cls9 (va_pl (out :: L) f ++ va_pl (LM A) (mF G A M)) H := va_P.swap (a := []) hP
    have hD : va_D (fun q : Nat => s.heap.size ≤ q) (va_pl (out :: L) f ++ va_pl (LM A) (mF G A M)) := va_D.swap (a := []) hD
    refine pz_cl (va_runV (As := [.int v1]) (rest := []) ⟨hx, hb, hml, hown, hts⟩ (x_MD_open l G A hA9 M _ v1 hok) (cwV 1 hts (tb_V tw_877 tw_878 tw_879 tw_8 tw_880) rfl rfl rfl (by decide +kernel) ⟨(Nat.le_of_ble_eq_true rfl), (Nat.le_of_ble_eq_true rfl)⟩) (pz_preV (zz_ok _ _ _) hK hP hD hS hA hz (ci := 10) rfl rfl (lm_in (by decide)) (mf_at hA9 M 0 (by decide))) rfl rfl hl.1 rfl (lv_room (Nat.le_of_ble_eq_true rfl)) d_LW_law_676 ⟨(by show _ ≤ 601024; omega), (by show _ ≤ 7293034; omega)⟩) hP hD hS hA (fun r7 L8 f8 H locs hw hP hD hS => ?_)
    obtain ⟨er7, hu⟩ := hw
    subst er7
    have eL8 : L8 = LM A := (Prod.mk.inj hu).1
    have ef8 : f8 = mF G A (M.si 0 1) := (Prod.mk.inj hu).2
    subst eL8
    subst ef8
    refine lv_lstore (lv' := [(6, .long 0), (5, .int 1), (0, .ref b), (1, .ref pm), (2, .ref (A 0)), (3, .ref out), (4, .int (nI (5 * n)))]) hx hb d_LW_law_679 hl (by decide) rfl (fun ls hl => ?_)
    refine lv_aload_n hx hb d_LW_law_681 rfl (lv_at hl 4 rfl) ?_
    refine vp_callSi (va_Run.run (va_runV (As := []) (rest := []) ⟨hx, hb, hml, hown, hts⟩ (c_MD_thrown l G A hA9 (M.si 0 1) _) (cwV 0 hts (tb_V tw_762 tw_763 tw_764 tw_8 tw_765) rfl rfl rfl (by decide +kernel) ⟨(Nat.le_of_ble_eq_true rfl), (Nat.le_of_ble_eq_true rfl)⟩) (pz_preV (zz_ok _ _ _) hK hP hD hS hA hz (ci := 10) rfl rfl (lm_in (by decide)) (mf_at hA9 (M.si 0 1) 0 (by decide))) rfl rfl hl.1 rfl (lv_room (Nat.le_of_ble_eq_true rfl)) d_LW_law_682 ⟨(by show _ ≤ 601024; omega), (by show _ ≤ 7293034; omega)⟩)) (fun r8 hw => ?_)
    have hw : r8 = 1 := hw.trans rfl
    subst hw
    refine lv_iload hx hb d_LW_law_685 (lv_at hl 1 rfl) ?_
    refine lv_icmp_eq (tgt := 692) hx hb d_LW_law_687 (by decide) (fun _ => ?_) (fun c0 => absurd c0 (by decide))
    refine lv_iload hx hb d_LW_law_692 (lv_at hl 1 rfl) ?_
    refine lv_if_ne (tgt := 708) hx hb d_LW_law_694 (by decide) (fun _ => ?_) (fun c0 => absurd c0 (by decide))
    have hP : va_P (gD G) cls9 (va_pl (LM A) (mF G A (M.si 0 1)) ++ va_pl (out :: L) f) H := va_P.swap (a := []) hP
    have hD : va_D (fun q : Nat => s.heap.size ≤ q) (va_pl (LM A) (mF G A (M.si 0 1)) ++ va_pl (out :: L) f) := va_D.swap (a := []) hD
    refine lv_goto (tgt := 711) hx hb d_LW_law_708 (by decide) ?_
    refine W.widen (k := 22 + 2 * (n + 1) + 7 * pgs.length) (n := 24067 + 904 * (n + 1) + 933 * pgs.length) (by omega) (by omega) ?_
    exact kk L f (M.si 0 1) (its, F9, pgs, F, P, T) H locs ls ⟨⟨al, ad, el, ed, fr, op, to, sa, fo, xs9, ys, hR⟩, ⟨g, hout⟩, hJ, mr_th hM, by show its.length ≤ n + 1; omega⟩ hP hD hS (lv_sub hl [2, 3, 4, 5, 6] rfl)
set_option maxHeartbeats 4000000 in
set_option maxRecDepth 100000 in
/-- the law: items -/
theorem lw_items {p : Program} {e : Env} {s : State} {m : MethodId} {below : List Frame} {meth : Method} {c : Code} (l : Launch) (hl9 : l.stackTraces = false) {b Ln : Nat} {xs : Nat → Int32} (hL : Ln ≤ 2560) (C0 : lw_At p s m meth c b Ln xs) (G : gG) (hK : va_K (gD G) cls9 (gT G) s) (hz : gZ G (fun q : Nat => s.heap.size ≤ q) s s.heap) (A : Nat → Nat) (hA9 : mJn A) (pm out : Nat) (n : Nat) (hn : 5 * n + 5 ≤ Ln) (L : List Nat) (f : Nat → va_E) (M : MS) (S : CS) (hI : LI G L f pm out M S n) (H : Heap) (locs : List Loc) (hP : va_P (gD G) cls9 (va_pl (LM A) (mF G A M) ++ va_pl (out :: L) f) H) (hD : va_D (fun q : Nat => s.heap.size ≤ q) (va_pl (LM A) (mF G A M) ++ va_pl (out :: L) f)) (hS : va_S (fun q : Nat => s.heap.size ≤ q) s.heap H locs) (ls : Array Slot) (hl : lv_has ls 8 [(0, .ref b), (1, .ref pm), (2, .ref (A 0)), (3, .ref out), (4, .int (nI (5 * n)))]) (kk : ∀ (L1 : List Nat) (f1 : Nat → va_E) (M1 : MS) (S1 : CS) (H1 : Heap) (locs1 : List Loc) (ls1 : Array Slot), LI G L1 f1 pm out M1 S1 (n + 1) → va_P (gD G) cls9 (va_pl (LM A) (mF G A M1) ++ va_pl (out :: L1) f1) H1 → va_D (fun q : Nat => s.heap.size ≤ q) (va_pl (LM A) (mF G A M1) ++ va_pl (out :: L1) f1) → va_S (fun q : Nat => s.heap.size ≤ q) s.heap H1 locs1 → lv_has ls1 8 [(0, .ref b), (1, .ref pm), (2, .ref (A 0)), (3, .ref out), (4, .int (nI (5 * n)))] → W p l e room_1 s m #[Value.ref b] below meth c H1 locs1 (22 + 2 * (n + 1) + 7 * S1.2.2.1.length) (24067 + 904 * (n + 1) + 933 * S1.2.2.1.length) (lw_Z below #[Value.ref b] s) (F0 m 711 ls1 [])) :
    W p l e room_1 s m #[Value.ref b] below meth c H locs (22 + 2 * n + 7 * S.2.2.1.length) (24067 + 904 * n + 933 * S.2.2.1.length) (lw_Z below #[Value.ref b] s) (F0 m 440 ls []) := by
  obtain ⟨hx, hb, hr, hml, hown, hts0, hX, hbl, hlocks, hgv⟩ := id C0
  have hA : ∀ q : Nat, s.heap.size ≤ q → (fun q : Nat => s.heap.size ≤ q) q := fun _ h => h
  have hbA : ¬ (fun q : Nat => s.heap.size ≤ q) b := Nat.not_le.mpr hbl
  have htb : ∀ w ∈ TB, w.before #[Value.ref b] s = true := fun w h => hts0 w (List.mem_filter.mp h).1
  have hts : ∀ w ∈ (Cond.initialized "PageMaker" :: TB), w.before #[Value.ref b] s = true := fun w h => (List.mem_cons.mp h).elim (fun e9 => e9 ▸ htb _ tw_1) (htb w)
  obtain ⟨its, F9, pgs, F, P, T⟩ := S
  obtain ⟨⟨al, ad, el, ed, fr, op, to, sa, fo, xs9, ys, hR⟩, ⟨g, hout⟩, hJ, hM, hln⟩ := id hI
  have hln : its.length ≤ n := hln
  show W p l e room_1 s m #[Value.ref b] below meth c H locs (22 + 2 * n + 7 * pgs.length) (24067 + 904 * n + 933 * pgs.length) (lw_Z below #[Value.ref b] s) (F0 m 440 ls [])
  have hp5 : pgs.length ≤ 512 := j_pgs hJ
  have hn5 : its.length < 512 := by omega
  obtain ⟨hpm, hfp, h_al, h_el, hne9, hdd, hX9, hY, -⟩ := id hR
  have hxl : xs9.length = its.length := hX9.1
  have hyl : ys.length = pgs.length := hY.1
  have hsub : ∀ z, z ∈ L → z ∈ out :: L := fun z hz9 => List.mem_cons_of_mem _ hz9
  refine lv_aload_n hx hb d_LW_law_440 rfl (lv_at hl 1 rfl) ?_
  refine vp_callSi (va_Run.run (va_runV (As := []) (rest := []) ⟨hx, hb, hml, hown, hts⟩ (c_PM_items l G (out :: L) f _ pm al el fr op ad xs9 (hsub _ hpm) hfp (lr_keep2 h_al hsub rfl (fun _ _ _ => rfl))) (cwV 0 hts (tb_V tw_173 tw_174 tw_175 tw_1 tw_176) rfl rfl rfl (by decide +kernel) ⟨(Nat.le_of_ble_eq_true rfl), (Nat.le_of_ble_eq_true rfl)⟩) (pz_preV (zz_ok _ _ _) hK hP hD hS hA hz (ci := 4) rfl rfl (hsub _ hpm) hfp) rfl rfl hl.1 rfl (lv_room (Nat.le_of_ble_eq_true rfl)) d_LW_law_441 ⟨(by show _ ≤ 601024; omega), (by show _ ≤ 7293034; omega)⟩)) (fun r1 hw => ?_)
  have hw : r1 = nI its.length := hw.trans (by rw [hxl])
  subst hw
  refine lv_aload_n hx hb d_LW_law_444 rfl (lv_at hl 2 rfl) ?_
  have hP : va_P (gD G) cls9 (va_pl (out :: L) f ++ va_pl (LM A) (mF G A M)) H := va_P.swap (a := []) hP
  have hD : va_D (fun q : Nat => s.heap.size ≤ q) (va_pl (out :: L) f ++ va_pl (LM A) (mF G A M)) := va_D.swap (a := []) hD
  refine pz_ci (va_runV (As := []) (rest := [.int (nI its.length)]) ⟨hx, hb, hml, hown, hts⟩ (c_MD_items l G A hA9 M _) (cwV 0 hts (tb_V tw_844 tw_845 tw_846 tw_8 tw_847) rfl rfl rfl (by decide +kernel) ⟨(Nat.le_of_ble_eq_true rfl), (Nat.le_of_ble_eq_true rfl)⟩) (pz_preV (zz_ok _ _ _) hK hP hD hS hA hz (ci := 10) rfl rfl (lm_in (by decide)) (mf_at hA9 M 0 (by decide))) rfl rfl hl.1 rfl (lv_room (Nat.le_of_ble_eq_true rfl)) d_LW_law_445 ⟨(by show _ ≤ 601024; omega), (by show _ ≤ 7293034; omega)⟩) hP hD hS hA (fun r7 L8 f8 H locs hw hP hD hS => ?_)
  obtain ⟨er7, hu⟩ := hw
  have er7 : r7 = nI its.length := er7.trans hM.1.1.1
  subst er7
  have eL8 : L8 = LM A := (Prod.mk.inj hu).1
  have ef8 : f8 = mF G A (M.si 0 0) := (Prod.mk.inj hu).2
  subst eL8
  subst ef8
  refine lv_icmp_eq (tgt := 711) hx hb d_LW_law_448 (by decide) (fun _ => ?_) (fun c0 => absurd (rfl : (nI its.length : Int32) = nI its.length) c0)
  have hP : va_P (gD G) cls9 (va_pl (LM A) (mF G A (M.si 0 0)) ++ va_pl (out :: L) f) H := va_P.swap (a := []) hP
  have hD : va_D (fun q : Nat => s.heap.size ≤ q) (va_pl (LM A) (mF G A (M.si 0 0)) ++ va_pl (out :: L) f) := va_D.swap (a := []) hD
  refine W.widen (k := 22 + 2 * (n + 1) + 7 * pgs.length) (n := 24067 + 904 * (n + 1) + 933 * pgs.length) (by omega) (by omega) ?_
  exact kk L f (M.si 0 0) (its, F9, pgs, F, P, T) H locs ls ⟨⟨al, ad, el, ed, fr, op, to, sa, fo, xs9, ys, hR⟩, ⟨g, hout⟩, hJ, mr_th hM, by show its.length ≤ n + 1; omega⟩ hP hD hS (lv_sub hl [0, 1, 2, 3, 4] rfl)
set_option maxHeartbeats 4000000 in
set_option maxRecDepth 100000 in
/-- the law: pages -/
theorem lw_pages {p : Program} {e : Env} {s : State} {m : MethodId} {below : List Frame} {meth : Method} {c : Code} (l : Launch) (hl9 : l.stackTraces = false) {b Ln : Nat} {xs : Nat → Int32} (hL : Ln ≤ 2560) (C0 : lw_At p s m meth c b Ln xs) (G : gG) (hK : va_K (gD G) cls9 (gT G) s) (hz : gZ G (fun q : Nat => s.heap.size ≤ q) s s.heap) (A : Nat → Nat) (hA9 : mJn A) (pm out : Nat) (n : Nat) (hn : 5 * n + 5 ≤ Ln) (L : List Nat) (f : Nat → va_E) (M : MS) (S : CS) (hI : LI G L f pm out M S n) (H : Heap) (locs : List Loc) (hP : va_P (gD G) cls9 (va_pl (LM A) (mF G A M) ++ va_pl (out :: L) f) H) (hD : va_D (fun q : Nat => s.heap.size ≤ q) (va_pl (LM A) (mF G A M) ++ va_pl (out :: L) f)) (hS : va_S (fun q : Nat => s.heap.size ≤ q) s.heap H locs) (ls : Array Slot) (hl : lv_has ls 8 [(0, .ref b), (1, .ref pm), (2, .ref (A 0)), (3, .ref out), (4, .int (nI (5 * n)))]) (kk : ∀ (L1 : List Nat) (f1 : Nat → va_E) (M1 : MS) (S1 : CS) (H1 : Heap) (locs1 : List Loc) (ls1 : Array Slot), LI G L1 f1 pm out M1 S1 (n + 1) → va_P (gD G) cls9 (va_pl (LM A) (mF G A M1) ++ va_pl (out :: L1) f1) H1 → va_D (fun q : Nat => s.heap.size ≤ q) (va_pl (LM A) (mF G A M1) ++ va_pl (out :: L1) f1) → va_S (fun q : Nat => s.heap.size ≤ q) s.heap H1 locs1 → lv_has ls1 8 [(0, .ref b), (1, .ref pm), (2, .ref (A 0)), (3, .ref out), (4, .int (nI (5 * n)))] → W p l e room_1 s m #[Value.ref b] below meth c H1 locs1 (22 + 2 * (n + 1) + 7 * S1.2.2.1.length) (24067 + 904 * (n + 1) + 933 * S1.2.2.1.length) (lw_Z below #[Value.ref b] s) (F0 m 711 ls1 [])) :
    W p l e room_1 s m #[Value.ref b] below meth c H locs (22 + 2 * n + 7 * S.2.2.1.length) (24067 + 904 * n + 933 * S.2.2.1.length) (lw_Z below #[Value.ref b] s) (F0 m 453 ls []) := by
  obtain ⟨hx, hb, hr, hml, hown, hts0, hX, hbl, hlocks, hgv⟩ := id C0
  have hA : ∀ q : Nat, s.heap.size ≤ q → (fun q : Nat => s.heap.size ≤ q) q := fun _ h => h
  have hbA : ¬ (fun q : Nat => s.heap.size ≤ q) b := Nat.not_le.mpr hbl
  have htb : ∀ w ∈ TB, w.before #[Value.ref b] s = true := fun w h => hts0 w (List.mem_filter.mp h).1
  have hts : ∀ w ∈ (Cond.initialized "PageMaker" :: TB), w.before #[Value.ref b] s = true := fun w h => (List.mem_cons.mp h).elim (fun e9 => e9 ▸ htb _ tw_1) (htb w)
  obtain ⟨its, F9, pgs, F, P, T⟩ := S
  obtain ⟨⟨al, ad, el, ed, fr, op, to, sa, fo, xs9, ys, hR⟩, ⟨g, hout⟩, hJ, hM, hln⟩ := id hI
  have hln : its.length ≤ n := hln
  show W p l e room_1 s m #[Value.ref b] below meth c H locs (22 + 2 * n + 7 * pgs.length) (24067 + 904 * n + 933 * pgs.length) (lw_Z below #[Value.ref b] s) (F0 m 453 ls [])
  have hp5 : pgs.length ≤ 512 := j_pgs hJ
  have hn5 : its.length < 512 := by omega
  obtain ⟨hpm, hfp, h_al, h_el, hne9, hdd, hX9, hY, -⟩ := id hR
  have hxl : xs9.length = its.length := hX9.1
  have hyl : ys.length = pgs.length := hY.1
  have hsub : ∀ z, z ∈ L → z ∈ out :: L := fun z hz9 => List.mem_cons_of_mem _ hz9
  refine lv_aload_n hx hb d_LW_law_453 rfl (lv_at hl 1 rfl) ?_
  refine vp_callSi (va_Run.run (va_runV (As := []) (rest := []) ⟨hx, hb, hml, hown, hts⟩ (c_PM_pages l G (out :: L) f _ pm al el fr op ed ys (hsub _ hpm) hfp (lr_keep2 h_el hsub rfl (fun _ _ _ => rfl))) (cwV 0 hts (tb_V tw_181 tw_182 tw_183 tw_1 tw_184) rfl rfl rfl (by decide +kernel) ⟨(Nat.le_of_ble_eq_true rfl), (Nat.le_of_ble_eq_true rfl)⟩) (pz_preV (zz_ok _ _ _) hK hP hD hS hA hz (ci := 4) rfl rfl (hsub _ hpm) hfp) rfl rfl hl.1 rfl (lv_room (Nat.le_of_ble_eq_true rfl)) d_LW_law_454 ⟨(by show _ ≤ 601024; omega), (by show _ ≤ 7293034; omega)⟩)) (fun r1 hw => ?_)
  have hw : r1 = nI pgs.length := hw.trans (by rw [hyl])
  subst hw
  refine lv_aload_n hx hb d_LW_law_457 rfl (lv_at hl 2 rfl) ?_
  have hP : va_P (gD G) cls9 (va_pl (out :: L) f ++ va_pl (LM A) (mF G A M)) H := va_P.swap (a := []) hP
  have hD : va_D (fun q : Nat => s.heap.size ≤ q) (va_pl (out :: L) f ++ va_pl (LM A) (mF G A M)) := va_D.swap (a := []) hD
  refine pz_ci (va_runV (As := []) (rest := [.int (nI pgs.length)]) ⟨hx, hb, hml, hown, hts⟩ (c_MD_pages l G A hA9 M _) (cwV 0 hts (tb_V tw_848 tw_849 tw_850 tw_8 tw_851) rfl rfl rfl (by decide +kernel) ⟨(Nat.le_of_ble_eq_true rfl), (Nat.le_of_ble_eq_true rfl)⟩) (pz_preV (zz_ok _ _ _) hK hP hD hS hA hz (ci := 10) rfl rfl (lm_in (by decide)) (mf_at hA9 M 0 (by decide))) rfl rfl hl.1 rfl (lv_room (Nat.le_of_ble_eq_true rfl)) d_LW_law_458 ⟨(by show _ ≤ 601024; omega), (by show _ ≤ 7293034; omega)⟩) hP hD hS hA (fun r7 L8 f8 H locs hw hP hD hS => ?_)
  obtain ⟨er7, hu⟩ := hw
  have er7 : r7 = nI pgs.length := er7.trans hM.1.2.2.2.2.1
  subst er7
  have eL8 : L8 = LM A := (Prod.mk.inj hu).1
  have ef8 : f8 = mF G A (M.si 0 0) := (Prod.mk.inj hu).2
  subst eL8
  subst ef8
  refine lv_icmp_eq (tgt := 711) hx hb d_LW_law_461 (by decide) (fun _ => ?_) (fun c0 => absurd (rfl : (nI pgs.length : Int32) = nI pgs.length) c0)
  have hP : va_P (gD G) cls9 (va_pl (LM A) (mF G A (M.si 0 0)) ++ va_pl (out :: L) f) H := va_P.swap (a := []) hP
  have hD : va_D (fun q : Nat => s.heap.size ≤ q) (va_pl (LM A) (mF G A (M.si 0 0)) ++ va_pl (out :: L) f) := va_D.swap (a := []) hD
  refine W.widen (k := 22 + 2 * (n + 1) + 7 * pgs.length) (n := 24067 + 904 * (n + 1) + 933 * pgs.length) (by omega) (by omega) ?_
  exact kk L f (M.si 0 0) (its, F9, pgs, F, P, T) H locs ls ⟨⟨al, ad, el, ed, fr, op, to, sa, fo, xs9, ys, hR⟩, ⟨g, hout⟩, hJ, mr_th hM, by show its.length ≤ n + 1; omega⟩ hP hD hS (lv_sub hl [0, 1, 2, 3, 4] rfl)
set_option maxHeartbeats 4000000 in
set_option maxRecDepth 100000 in
/-- the law: frame -/
theorem lw_frame {p : Program} {e : Env} {s : State} {m : MethodId} {below : List Frame} {meth : Method} {c : Code} (l : Launch) (hl9 : l.stackTraces = false) {b Ln : Nat} {xs : Nat → Int32} (hL : Ln ≤ 2560) (C0 : lw_At p s m meth c b Ln xs) (G : gG) (hK : va_K (gD G) cls9 (gT G) s) (hz : gZ G (fun q : Nat => s.heap.size ≤ q) s s.heap) (A : Nat → Nat) (hA9 : mJn A) (pm out : Nat) (n : Nat) (hn : 5 * n + 5 ≤ Ln) (L : List Nat) (f : Nat → va_E) (M : MS) (S : CS) (hI : LI G L f pm out M S n) (H : Heap) (locs : List Loc) (hP : va_P (gD G) cls9 (va_pl (LM A) (mF G A M) ++ va_pl (out :: L) f) H) (hD : va_D (fun q : Nat => s.heap.size ≤ q) (va_pl (LM A) (mF G A M) ++ va_pl (out :: L) f)) (hS : va_S (fun q : Nat => s.heap.size ≤ q) s.heap H locs) (ls : Array Slot) (hl : lv_has ls 8 [(0, .ref b), (1, .ref pm), (2, .ref (A 0)), (3, .ref out), (4, .int (nI (5 * n)))]) (kk : ∀ (L1 : List Nat) (f1 : Nat → va_E) (M1 : MS) (S1 : CS) (H1 : Heap) (locs1 : List Loc) (ls1 : Array Slot), LI G L1 f1 pm out M1 S1 (n + 1) → va_P (gD G) cls9 (va_pl (LM A) (mF G A M1) ++ va_pl (out :: L1) f1) H1 → va_D (fun q : Nat => s.heap.size ≤ q) (va_pl (LM A) (mF G A M1) ++ va_pl (out :: L1) f1) → va_S (fun q : Nat => s.heap.size ≤ q) s.heap H1 locs1 → lv_has ls1 8 [(0, .ref b), (1, .ref pm), (2, .ref (A 0)), (3, .ref out), (4, .int (nI (5 * n)))] → W p l e room_1 s m #[Value.ref b] below meth c H1 locs1 (22 + 2 * (n + 1) + 7 * S1.2.2.1.length) (24067 + 904 * (n + 1) + 933 * S1.2.2.1.length) (lw_Z below #[Value.ref b] s) (F0 m 711 ls1 [])) :
    W p l e room_1 s m #[Value.ref b] below meth c H locs (22 + 2 * n + 7 * S.2.2.1.length) (24067 + 904 * n + 933 * S.2.2.1.length) (lw_Z below #[Value.ref b] s) (F0 m 96 ls []) := by
  obtain ⟨hx, hb, hr, hml, hown, hts0, hX, hbl, hlocks, hgv⟩ := id C0
  have hA : ∀ q : Nat, s.heap.size ≤ q → (fun q : Nat => s.heap.size ≤ q) q := fun _ h => h
  have hbA : ¬ (fun q : Nat => s.heap.size ≤ q) b := Nat.not_le.mpr hbl
  have htb : ∀ w ∈ TB, w.before #[Value.ref b] s = true := fun w h => hts0 w (List.mem_filter.mp h).1
  have hts : ∀ w ∈ (Cond.initialized "PageMaker" :: TB), w.before #[Value.ref b] s = true := fun w h => (List.mem_cons.mp h).elim (fun e9 => e9 ▸ htb _ tw_1) (htb w)
  obtain ⟨its, F9, pgs, F, P, T⟩ := S
  obtain ⟨⟨al, ad, el, ed, fr, op, to, sa, fo, xs9, ys, hR⟩, ⟨g, hout⟩, hJ, hM, hln⟩ := id hI
  have hln : its.length ≤ n := hln
  show W p l e room_1 s m #[Value.ref b] below meth c H locs (22 + 2 * n + 7 * pgs.length) (24067 + 904 * n + 933 * pgs.length) (lw_Z below #[Value.ref b] s) (F0 m 96 ls [])
  have hp5 : pgs.length ≤ 512 := j_pgs hJ
  have hn5 : its.length < 512 := by omega
  obtain ⟨v1, hv19⟩ : ∃ v, v = xs (5 * n + 1) := ⟨_, rfl⟩
  obtain ⟨v2, hv29⟩ : ∃ v, v = xs (5 * n + 2) := ⟨_, rfl⟩
  obtain ⟨v3, hv39⟩ : ∃ v, v = xs (5 * n + 3) := ⟨_, rfl⟩
  by_cases hok : k_isZ v1 ∧ k_isS v2 ∧ k_isZ v3
  · obtain ⟨hq0, hq1, hq2⟩ := id hok
    refine lv_aload_n hx hb d_LW_law_96 rfl (lv_at hl 1 rfl) ?_
    refine lv_aload_n hx hb d_LW_law_97 rfl (lv_at hl 0 rfl) ?_
    refine lv_iload hx hb d_LW_law_98 (lv_at hl 4 rfl) ?_
    refine lv_iconst (v := 1) hx hb d_LW_law_100 (by decide) ?_
    refine lv_iadd hx hb d_LW_law_101 ?_
    refine lv_topi (fun x1 ex1 => ?_)
    have ex1 : x1 = nI (5 * n + 1) := ex1.trans (nI_add (5 * n) 1)
    subst ex1
    refine law_sld (j := (5 * n + 1)) (v := v1) hv19 hx hb hX hbl hbA hS (by omega) (by omega) d_LW_law_102 ?_
    refine lv_aload_n hx hb d_LW_law_103 rfl (lv_at hl 0 rfl) ?_
    refine lv_iload hx hb d_LW_law_104 (lv_at hl 4 rfl) ?_
    refine lv_iconst (v := 2) hx hb d_LW_law_106 (by decide) ?_
    refine lv_iadd hx hb d_LW_law_107 ?_
    refine lv_topi (fun x2 ex2 => ?_)
    have ex2 : x2 = nI (5 * n + 2) := ex2.trans (nI_add (5 * n) 2)
    subst ex2
    refine law_sld (j := (5 * n + 2)) (v := v2) hv29 hx hb hX hbl hbA hS (by omega) (by omega) d_LW_law_108 ?_
    refine lv_aload_n hx hb d_LW_law_109 rfl (lv_at hl 0 rfl) ?_
    refine lv_iload hx hb d_LW_law_110 (lv_at hl 4 rfl) ?_
    refine lv_iconst (v := 3) hx hb d_LW_law_112 (by decide) ?_
    refine lv_iadd hx hb d_LW_law_113 ?_
    refine lv_topi (fun x3 ex3 => ?_)
    have ex3 : x3 = nI (5 * n + 3) := ex3.trans (nI_add (5 * n) 3)
    subst ex3
    refine law_sld (j := (5 * n + 3)) (v := v3) hv39 hx hb hX hbl hbA hS (by omega) (by omega) d_LW_law_114 ?_
    have hP : va_P (gD G) cls9 ((va_pl (LM A) (mF G A M) ++ [(out, f out)]) ++ va_pl L f) H := by rw [List.append_assoc]; exact hP
    have hD : va_D (fun q : Nat => s.heap.size ≤ q) ((va_pl (LM A) (mF G A M) ++ [(out, f out)]) ++ va_pl L f) := by rw [List.append_assoc]; exact hD
    refine pz_ci (vx_runSW (As := [.ref pm, .int v1, .int v2, .int v3]) (rest := []) ⟨hx, hb, hml, hown, hts⟩ (c_LW_frame l G L f _ pm al ad el ed fr op to sa fo xs9 ys its F9 pgs F P T v1 v2 v3 hR hq0 hq1 hq2) (vx_cwSW 4 hts (tb_SS tw_185 tw_186 tw_0 tw_187) rfl rfl rfl (by decide +kernel) ⟨(Nat.le_of_ble_eq_true rfl), (Nat.le_of_ble_eq_true rfl)⟩) (pz_pre (zz_ok _ _ _) hK hP hD hS hA hz) rfl rfl hl.1 rfl (lv_room (Nat.le_of_ble_eq_true rfl)) d_LW_law_115 ⟨(by show _ ≤ 601024; omega), (by show _ ≤ 7293034; omega)⟩) hP hD hS hA (fun r9 L9 f9 H locs hw hP hD hS => ?_)
    obtain ⟨er9, fr1, hR9⟩ := hw
    subst er9
    obtain ⟨hno, hpe⟩ := law_back hD
    rw [hpe] at hP hD
    obtain ⟨f8, ef8⟩ : ∃ y, y = va_up f9 out (f out) := ⟨_, rfl⟩
    rw [← ef8] at hP hD
    have hR8 : RX G L9 f8 pm al ad el ed fr1 op to sa fo xs9 ys (its, (v1, v2, v3), pgs, F, P, T) := rx_congr (fun z hz9 => by rw [ef8]; exact va_up_ne _ _ (Ne.symm (pz_nef hno hz9))) hR9
    have ho8 : f8 out = .inl (cJ G, 1, .inr (.inl g)) := by rw [ef8]; exact (va_up_self _ _ _).trans hout
    refine lv_istore (lv' := [(5, .int 0), (0, .ref b), (1, .ref pm), (2, .ref (A 0)), (3, .ref out), (4, .int (nI (5 * n)))]) hx hb d_LW_law_118 hl (by decide) rfl (fun ls hl => ?_)
    refine lv_aload_n hx hb d_LW_law_120 rfl (lv_at hl 3 rfl) ?_
    refine lv_aload_n hx hb d_LW_law_121 rfl (lv_at hl 1 rfl) ?_
    refine lv_iload hx hb d_LW_law_122 (lv_at hl 5 rfl) ?_
    refine lv_iconst (v := 1) hx hb d_LW_law_124 (by decide) ?_
    refine lv_iadd hx hb d_LW_law_125 ?_
    refine lv_topi (fun x4 ex4 => ?_)
    have ex4 : x4 = nI (5 * n + 1) := ex4.trans (nI_add (5 * n) 1)
    subst ex4
    refine law_sld (j := (5 * n + 1)) (v := v1) hv19 hx hb hX hbl hbA hS (by omega) (by omega) d_LW_law_126 ?_
    refine lv_aload_n hx hb d_LW_law_127 rfl (lv_at hl 1 rfl) ?_
    refine lv_iload hx hb d_LW_law_128 (lv_at hl 5 rfl) ?_
    refine lv_iconst (v := 2) hx hb d_LW_law_130 (by decide) ?_
    refine lv_iadd hx hb d_LW_law_131 ?_
    refine lv_topi (fun x5 ex5 => ?_)
    have ex5 : x5 = nI (5 * n + 2) := ex5.trans (nI_add (5 * n) 2)
    subst ex5
    refine law_sld (j := (5 * n + 2)) (v := v2) hv29 hx hb hX hbl hbA hS (by omega) (by omega) d_LW_law_132 ?_
    refine lv_aload_n hx hb d_LW_law_133 rfl (lv_at hl 1 rfl) ?_
    refine lv_iload hx hb d_LW_law_134 (lv_at hl 5 rfl) ?_
    refine lv_iconst (v := 3) hx hb d_LW_law_136 (by decide) ?_
    refine lv_iadd hx hb d_LW_law_137 ?_
    refine lv_topi (fun x6 ex6 => ?_)
    have ex6 : x6 = nI (5 * n + 3) := ex6.trans (nI_add (5 * n) 3)
    subst ex6
    refine law_sld (j := (5 * n + 3)) (v := v3) hv39 hx hb hX hbl hbA hS (by omega) (by omega) d_LW_law_138 ?_
    have hP : va_P (gD G) cls9 (va_pl (out :: L9) f8 ++ va_pl (LM A) (mF G A M)) H := va_P.swap (a := []) hP
    have hD : va_D (fun q : Nat => s.heap.size ≤ q) (va_pl (out :: L9) f8 ++ va_pl (LM A) (mF G A M)) := va_D.swap (a := []) hD
    refine pz_cv (va_runV (As := [.int v1, .int v2, .int v3]) (rest := []) ⟨hx, hb, hml, hown, hts⟩ (c_MD_frame l G A hA9 M _ v1 v2 v3 hq0 hq1 hq2) (cwV 3 hts (tb_V tw_766 tw_767 tw_768 tw_8 tw_769) rfl rfl rfl (by decide +kernel) ⟨(Nat.le_of_ble_eq_true rfl), (Nat.le_of_ble_eq_true rfl)⟩) (pz_preV (zz_ok _ _ _) hK hP hD hS hA hz (ci := 10) rfl rfl (lm_in (by decide)) (mf_at hA9 M 0 (by decide))) rfl rfl hl.1 rfl (lv_room (Nat.le_of_ble_eq_true rfl)) d_LW_law_139 ⟨(by show _ ≤ 601024; omega), (by show _ ≤ 7293034; omega)⟩) hP hD hS hA (fun L8 f8x H locs hw hP hD hS => ?_)
    have eL8 : L8 = LM A := (Prod.mk.inj hw).1
    have ef8x : f8x = mF G A ((((M.si 0 0).si 2 v1).si 3 v2).si 4 v3) := (Prod.mk.inj hw).2
    subst eL8
    subst ef8x
    refine lv_aload_n hx hb d_LW_law_142 rfl (lv_at hl 3 rfl) ?_
    refine vp_callSi (va_Run.run (va_runV (As := []) (rest := []) ⟨hx, hb, hml, hown, hts⟩ (c_MD_thrown l G A hA9 ((((M.si 0 0).si 2 v1).si 3 v2).si 4 v3) _) (cwV 0 hts (tb_V tw_762 tw_763 tw_764 tw_8 tw_765) rfl rfl rfl (by decide +kernel) ⟨(Nat.le_of_ble_eq_true rfl), (Nat.le_of_ble_eq_true rfl)⟩) (pz_preV (zz_ok _ _ _) hK hP hD hS hA hz (ci := 10) rfl rfl (lm_in (by decide)) (mf_at hA9 ((((M.si 0 0).si 2 v1).si 3 v2).si 4 v3) 0 (by decide))) rfl rfl hl.1 rfl (lv_room (Nat.le_of_ble_eq_true rfl)) d_LW_law_143 ⟨(by show _ ≤ 601024; omega), (by show _ ≤ 7293034; omega)⟩)) (fun r7 hw => ?_)
    have hw : r7 = 0 := hw.trans rfl
    subst hw
    refine lv_iload hx hb d_LW_law_146 (lv_at hl 0 rfl) ?_
    refine lv_icmp_eq (tgt := 153) hx hb d_LW_law_148 (by decide) (fun _ => ?_) (fun c0 => absurd c0 (by decide))
    have hP : va_P (gD G) cls9 (va_pl (LM A) (mF G A ((((M.si 0 0).si 2 v1).si 3 v2).si 4 v3)) ++ va_pl (out :: L9) f8) H := va_P.swap (a := []) hP
    have hD : va_D (fun q : Nat => s.heap.size ≤ q) (va_pl (LM A) (mF G A ((((M.si 0 0).si 2 v1).si 3 v2).si 4 v3)) ++ va_pl (out :: L9) f8) := va_D.swap (a := []) hD
    refine lv_goto (tgt := 711) hx hb d_LW_law_153 (by decide) ?_
    refine W.widen (k := 22 + 2 * (n + 1) + 7 * pgs.length) (n := 24067 + 904 * (n + 1) + 933 * pgs.length) (by omega) (by omega) ?_
    exact kk L9 f8 ((((M.si 0 0).si 2 v1).si 3 v2).si 4 v3) (its, (v1, v2, v3), pgs, F, P, T) H locs ls ⟨⟨al, ad, el, ed, fr1, op, to, sa, fo, xs9, ys, hR8⟩, ⟨g, ho8⟩, j_frame hJ hq0 hq1 hq2, mr_frame hM, by show its.length ≤ n + 1; omega⟩ hP hD hS (lv_sub hl [1, 2, 3, 4, 5] rfl)
  · refine lv_aload_n hx hb d_LW_law_96 rfl (lv_at hl 1 rfl) ?_
    refine lv_aload_n hx hb d_LW_law_97 rfl (lv_at hl 0 rfl) ?_
    refine lv_iload hx hb d_LW_law_98 (lv_at hl 4 rfl) ?_
    refine lv_iconst (v := 1) hx hb d_LW_law_100 (by decide) ?_
    refine lv_iadd hx hb d_LW_law_101 ?_
    refine lv_topi (fun x8 ex8 => ?_)
    have ex8 : x8 = nI (5 * n + 1) := ex8.trans (nI_add (5 * n) 1)
    subst ex8
    refine law_sld (j := (5 * n + 1)) (v := v1) hv19 hx hb hX hbl hbA hS (by omega) (by omega) d_LW_law_102 ?_
    refine lv_aload_n hx hb d_LW_law_103 rfl (lv_at hl 0 rfl) ?_
    refine lv_iload hx hb d_LW_law_104 (lv_at hl 4 rfl) ?_
    refine lv_iconst (v := 2) hx hb d_LW_law_106 (by decide) ?_
    refine lv_iadd hx hb d_LW_law_107 ?_
    refine lv_topi (fun x9 ex9 => ?_)
    have ex9 : x9 = nI (5 * n + 2) := ex9.trans (nI_add (5 * n) 2)
    subst ex9
    refine law_sld (j := (5 * n + 2)) (v := v2) hv29 hx hb hX hbl hbA hS (by omega) (by omega) d_LW_law_108 ?_
    refine lv_aload_n hx hb d_LW_law_109 rfl (lv_at hl 0 rfl) ?_
    refine lv_iload hx hb d_LW_law_110 (lv_at hl 4 rfl) ?_
    refine lv_iconst (v := 3) hx hb d_LW_law_112 (by decide) ?_
    refine lv_iadd hx hb d_LW_law_113 ?_
    refine lv_topi (fun x10 ex10 => ?_)
    have ex10 : x10 = nI (5 * n + 3) := ex10.trans (nI_add (5 * n) 3)
    subst ex10
    refine law_sld (j := (5 * n + 3)) (v := v3) hv39 hx hb hX hbl hbA hS (by omega) (by omega) d_LW_law_114 ?_
    have hP : va_P (gD G) cls9 ((va_pl (LM A) (mF G A M) ++ [(out, f out)]) ++ va_pl L f) H := by rw [List.append_assoc]; exact hP
    have hD : va_D (fun q : Nat => s.heap.size ≤ q) ((va_pl (LM A) (mF G A M) ++ [(out, f out)]) ++ va_pl L f) := by rw [List.append_assoc]; exact hD
    refine pz_ci (vx_runSW (As := [.ref pm, .int v1, .int v2, .int v3]) (rest := []) ⟨hx, hb, hml, hown, hts⟩ (x_LW_frame l hl9 G L f _ pm al ad el ed fr op to sa fo xs9 ys its F9 pgs F P T v1 v2 v3 hR hok) (vx_cwSW 4 hts (tb_SS tw_185 tw_186 tw_0 tw_187) rfl rfl rfl (by decide +kernel) ⟨(Nat.le_of_ble_eq_true rfl), (Nat.le_of_ble_eq_true rfl)⟩) (pz_pre (zz_ok _ _ _) hK hP hD hS hA hz) rfl rfl hl.1 rfl (lv_room (Nat.le_of_ble_eq_true rfl)) d_LW_law_115 ⟨(by show _ ≤ 601024; omega), (by show _ ≤ 7293034; omega)⟩) hP hD hS hA (fun r9 L9 f9 H locs hw hP hD hS => ?_)
    obtain ⟨er9, hu⟩ := hw
    subst er9
    have eL9 : L9 = L := (Prod.mk.inj hu).1
    have ef9 : f9 = f := (Prod.mk.inj hu).2
    rw [eL9, ef9, List.append_assoc] at hP hD
    have hP : va_P (gD G) cls9 (va_pl (LM A) (mF G A M) ++ va_pl (out :: L) f) H := hP
    have hD : va_D (fun q : Nat => s.heap.size ≤ q) (va_pl (LM A) (mF G A M) ++ va_pl (out :: L) f) := hD
    refine lv_istore (lv' := [(5, .int 1), (0, .ref b), (1, .ref pm), (2, .ref (A 0)), (3, .ref out), (4, .int (nI (5 * n)))]) hx hb d_LW_law_118 hl (by decide) rfl (fun ls hl => ?_)
    refine lv_aload_n hx hb d_LW_law_120 rfl (lv_at hl 3 rfl) ?_
    refine lv_aload_n hx hb d_LW_law_121 rfl (lv_at hl 1 rfl) ?_
    refine lv_iload hx hb d_LW_law_122 (lv_at hl 5 rfl) ?_
    refine lv_iconst (v := 1) hx hb d_LW_law_124 (by decide) ?_
    refine lv_iadd hx hb d_LW_law_125 ?_
    refine lv_topi (fun x11 ex11 => ?_)
    have ex11 : x11 = nI (5 * n + 1) := ex11.trans (nI_add (5 * n) 1)
    subst ex11
    refine law_sld (j := (5 * n + 1)) (v := v1) hv19 hx hb hX hbl hbA hS (by omega) (by omega) d_LW_law_126 ?_
    refine lv_aload_n hx hb d_LW_law_127 rfl (lv_at hl 1 rfl) ?_
    refine lv_iload hx hb d_LW_law_128 (lv_at hl 5 rfl) ?_
    refine lv_iconst (v := 2) hx hb d_LW_law_130 (by decide) ?_
    refine lv_iadd hx hb d_LW_law_131 ?_
    refine lv_topi (fun x12 ex12 => ?_)
    have ex12 : x12 = nI (5 * n + 2) := ex12.trans (nI_add (5 * n) 2)
    subst ex12
    refine law_sld (j := (5 * n + 2)) (v := v2) hv29 hx hb hX hbl hbA hS (by omega) (by omega) d_LW_law_132 ?_
    refine lv_aload_n hx hb d_LW_law_133 rfl (lv_at hl 1 rfl) ?_
    refine lv_iload hx hb d_LW_law_134 (lv_at hl 5 rfl) ?_
    refine lv_iconst (v := 3) hx hb d_LW_law_136 (by decide) ?_
    refine lv_iadd hx hb d_LW_law_137 ?_
    refine lv_topi (fun x13 ex13 => ?_)
    have ex13 : x13 = nI (5 * n + 3) := ex13.trans (nI_add (5 * n) 3)
    subst ex13
    refine law_sld (j := (5 * n + 3)) (v := v3) hv39 hx hb hX hbl hbA hS (by omega) (by omega) d_LW_law_138 ?_
    have hP : va_P (gD G) cls9 (va_pl (out :: L) f ++ va_pl (LM A) (mF G A M)) H := va_P.swap (a := []) hP
    have hD : va_D (fun q : Nat => s.heap.size ≤ q) (va_pl (out :: L) f ++ va_pl (LM A) (mF G A M)) := va_D.swap (a := []) hD
    refine pz_cv (va_runV (As := [.int v1, .int v2, .int v3]) (rest := []) ⟨hx, hb, hml, hown, hts⟩ (x_MD_frame l G A hA9 M _ v1 v2 v3 hok) (cwV 3 hts (tb_V tw_766 tw_767 tw_768 tw_8 tw_769) rfl rfl rfl (by decide +kernel) ⟨(Nat.le_of_ble_eq_true rfl), (Nat.le_of_ble_eq_true rfl)⟩) (pz_preV (zz_ok _ _ _) hK hP hD hS hA hz (ci := 10) rfl rfl (lm_in (by decide)) (mf_at hA9 M 0 (by decide))) rfl rfl hl.1 rfl (lv_room (Nat.le_of_ble_eq_true rfl)) d_LW_law_139 ⟨(by show _ ≤ 601024; omega), (by show _ ≤ 7293034; omega)⟩) hP hD hS hA (fun L8 f8 H locs hw hP hD hS => ?_)
    have eL8 : L8 = LM A := (Prod.mk.inj hw).1
    have ef8 : f8 = mF G A (M.si 0 1) := (Prod.mk.inj hw).2
    subst eL8
    subst ef8
    refine lv_aload_n hx hb d_LW_law_142 rfl (lv_at hl 3 rfl) ?_
    refine vp_callSi (va_Run.run (va_runV (As := []) (rest := []) ⟨hx, hb, hml, hown, hts⟩ (c_MD_thrown l G A hA9 (M.si 0 1) _) (cwV 0 hts (tb_V tw_762 tw_763 tw_764 tw_8 tw_765) rfl rfl rfl (by decide +kernel) ⟨(Nat.le_of_ble_eq_true rfl), (Nat.le_of_ble_eq_true rfl)⟩) (pz_preV (zz_ok _ _ _) hK hP hD hS hA hz (ci := 10) rfl rfl (lm_in (by decide)) (mf_at hA9 (M.si 0 1) 0 (by decide))) rfl rfl hl.1 rfl (lv_room (Nat.le_of_ble_eq_true rfl)) d_LW_law_143 ⟨(by show _ ≤ 601024; omega), (by show _ ≤ 7293034; omega)⟩)) (fun r14 hw => ?_)
    have hw : r14 = 1 := hw.trans rfl
    subst hw
    refine lv_iload hx hb d_LW_law_146 (lv_at hl 0 rfl) ?_
    refine lv_icmp_eq (tgt := 153) hx hb d_LW_law_148 (by decide) (fun _ => ?_) (fun c0 => absurd c0 (by decide))
    have hP : va_P (gD G) cls9 (va_pl (LM A) (mF G A (M.si 0 1)) ++ va_pl (out :: L) f) H := va_P.swap (a := []) hP
    have hD : va_D (fun q : Nat => s.heap.size ≤ q) (va_pl (LM A) (mF G A (M.si 0 1)) ++ va_pl (out :: L) f) := va_D.swap (a := []) hD
    refine lv_goto (tgt := 711) hx hb d_LW_law_153 (by decide) ?_
    refine W.widen (k := 22 + 2 * (n + 1) + 7 * pgs.length) (n := 24067 + 904 * (n + 1) + 933 * pgs.length) (by omega) (by omega) ?_
    exact kk L f (M.si 0 1) (its, F9, pgs, F, P, T) H locs ls ⟨⟨al, ad, el, ed, fr, op, to, sa, fo, xs9, ys, hR⟩, ⟨g, hout⟩, hJ, mr_th hM, by show its.length ≤ n + 1; omega⟩ hP hD hS (lv_sub hl [1, 2, 3, 4, 5] rfl)
