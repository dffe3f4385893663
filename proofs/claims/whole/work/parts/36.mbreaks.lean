/-! THE MODEL: breaks -/
/-- the model has looked at the kern at k already: glue follows it -/
def pend (its : List It) (k : Nat) : Bool := match its[k]?, its[k + 1]? with
  | some (.inr (.inr (.inl _))), some (.inr (.inl _)) => true
  | _, _ => false
def qm (its : List It) (F : Fr) (a j : Nat) : Op := if pend its (a + j) = true then (sL its F a j).2 else sP its F a j
theorem qm_yes {its : List It} {F : Fr} {a j : Nat} (h : pend its (a + j) = true) : qm its F a j = (sL its F a j).2 := if_pos h
theorem qm_no {its : List It} {F : Fr} {a j : Nat} (h : pend its (a + j) = false) : qm its F a j = sP its F a j := if_neg (fun h9 => absurd (h9.symm.trans h) (by decide))
theorem pend_not {its : List It} {k : Nat} {it : It} (h : its[k]? = some it) (hn : ∀ w, it ≠ .inr (.inr (.inl w))) : pend its k = false := by
  unfold pend
  rw [h]
  rcases it with ⟨ia, ib⟩ | ⟨ia, ib, io, id9⟩ | ia | ia
  · rfl
  · rfl
  · exact absurd rfl (hn ia)
  · rfl
theorem pend_n2 {its : List It} {k : Nat} {it : It} (h : its[k + 1]? = some it) (hn : ∀ a b c d, it ≠ .inr (.inl (a, b, c, d))) : pend its k = false := by
  unfold pend
  rw [h]
  rcases it with ⟨ia, ib⟩ | ⟨ia, ib, io, id9⟩ | ia | ia
  · split <;> first | rfl | (next h1 h2 => cases h2)
  · exact absurd rfl (hn ia ib io id9)
  · split <;> first | rfl | (next h1 h2 => cases h2)
  · split <;> first | rfl | (next h1 h2 => cases h2)
theorem pend_n0 {its : List It} {k : Nat} (h : its[k + 1]? = none) : pend its k = false := by
  unfold pend
  rw [h]
  split <;> first | rfl | (next h1 h2 => cases h2)
theorem qm_none {its : List It} {F : Fr} {a j : Nat} (h : its[a + j + 1]? = none) : qm its F a j = sP its F a j := qm_no (pend_n0 h)
theorem qm_not {its : List It} {F : Fr} {a j : Nat} {it : It} (h : its[a + j + 1]? = some it) (hn : ∀ a b c d, it ≠ .inr (.inl (a, b, c, d))) : qm its F a j = sP its F a j := qm_no (pend_n2 h hn)
theorem br_all {its : List It} {F : Fr} {a j : Nat} (h : ∀ i, i < j → (sL its F a i).1 = false) (h1 : (sL its F a j).1 = false) : ∀ i, i < j + 1 → (sL its F a i).1 = false := fun i hi => by
  by_cases e : i = j
  · rw [e]
    exact h1
  · exact h i (by omega)
theorem br_i (f : Nat → Int32) (x y x1 y1 : Int32) : va_up (va_up (va_up (va_up f 8 x) 9 y) 8 x1) 9 y1 = va_up (va_up f 8 x1) 9 y1 := by
  rw [pz_up_comm f x y (by decide : (8 : Nat) ≠ 9), bx_uu, pz_up_comm _ y x1 (by decide : (9 : Nat) ≠ 8), bx_uu]
theorem br_q {f : Nat → Int32} {P Q : Op} (h : Q.2.2 = P.2.2) : va_up (va_up f 8 P.2.2.1) 9 P.2.2.2.1 = va_up (va_up f 8 Q.2.2.1) 9 Q.2.2.2.1 := by
  rw [h]
theorem br_0 {f : Nat → Int32} {its : List It} {F : Fr} {a : Nat} (h : qm its F a 0 = sP its F a 0) : va_up (va_up f 8 (-1)) 9 1073741823 = va_up (va_up f 8 (qm its F a 0).2.2.1) 9 (qm its F a 0).2.2.2.1 := by
  rw [h]
  rfl
theorem o_bad_g {T T1 : Tt} {h : Int32} {x : Int64} (e1 : T1.2.2.2 = T.2.2.2) (e2 : T1.2.2.1 = T.2.2.1) : o_bad T1 h x = o_bad T h x := by
  unfold o_bad
  rw [e1, e2]
theorem o_at_c {P P1 : Op} {T T1 : Tt} {F : Fr} {pl : Int32} {x : Int64} {p : Int32} (h : P1.2.2 = P.2.2) (e1 : T1.2.2.2 = T.2.2.2) (e2 : T1.2.2.1 = T.2.2.1) : (o_at P1 T1 F pl x p).1 = (o_at P T F pl x p).1 ∧ (o_at P1 T1 F pl x p).2.2.2 = (o_at P T F pl x p).2.2.2 := by
  unfold o_at o_best o_end
  rw [o_bad_g e1 e2, h]
  split <;> split <;> exact ⟨rfl, by simp only [h]⟩
theorem br_kern {its : List It} {F : Fr} {a j : Nat} {w : Int32} {P : Op} (h : sL its F a (j + 1) = o_at (sP its F a (j + 1)) (t_list its F a (a + (j + 1) + 1)) F (nI (a + (j + 1) + 1 - 1)) (sP its F a (j + 1)).2.1 0) (hP : sP its F a (j + 1) = (nI a, (t_list its F a (a + j + 1)).1, P.2.2)) (hT : t_list its F a (a + j + 1 + 1) = t_add (.inr (.inr (.inl w))) F.2.2 (t_list its F a (a + j + 1))) : (sL its F a (j + 1)).1 = (o_at P (t_list its F a (a + j + 1)) F (nI (a + j + 1)) (t_list its F a (a + j + 1)).1 0).1 ∧ (sL its F a (j + 1)).2.2.2 = (o_at P (t_list its F a (a + j + 1)) F (nI (a + j + 1)) (t_list its F a (a + j + 1)).1 0).2.2.2 := by
  rw [h, hP, show a + (j + 1) + 1 = a + j + 1 + 1 from rfl, hT]
  exact o_at_c rfl rfl rfl
set_option maxHeartbeats 4000000 in
set_option maxRecDepth 100000 in
/-- model: breaks, a look at the place k with the penalty pp -/
theorem lk_breaks (l : Launch) (G : gG) (A : Nat → Nat) (hA9 : mJn A) (M : MS) (sz : Nat) (its : List It) (F : Fr) (a np : Nat) {p : Program} {e : Env} {s : State} {m : MethodId} {below : List Frame} {meth : Method} {c : Code} (hx : p.tables.exec = Jvm.exec) (hb : c.code = prog_12_method_15_code) (hr : meth.sig.returnType = (some .boolean)) (hml : c.maxLocals = 4) (hts : ∀ w ∈ w_MD_breaks, w.before ([.ref (A 0)] : List Value).toArray s = true) (hown : s.vm.findClass "PageMakerModel" = some m.cls) (hlocks : meth.locks = false) (hK : va_K (gD G) cls9 (gT G) s) (hA : ∀ q, s.heap.size ≤ q → mA (LM A) (mF G A M) sz q) (hz : gZ G (mA (LM A) (mF G A M) sz) s s.heap) (hit : MIt M.r M.ct its) (hv : itsV its) (hpg : PR M.r np F a) (hnp : np ≤ 512) (hM5 : M.pg = nI np) (hM6 : M.bg = nI a) (hM7 : M.io = 1) (b0 b1 : Int32) (hbx : its[a]? = some (.inl (b0, b1))) (k : Nat) (pp : Int32) (P : Op) (T : Tt) (M1 : MS) (H : Heap) (locs : List Loc) (ls : Array Slot) (PQ : Int32 → pz_U → Prop) (hk : k ≤ 512) (hi1 : M1.i = va_up (va_up M.i 8 P.2.2.1) 9 P.2.2.2.1) (hr1 : M1.r = M.r) (hT : TM M1 T) (hnn : NN M1) (hP : va_P (gD G) cls9 ([] ++ va_pl (LM A) (mF G A M1)) H) (hD : va_D (mA (LM A) (mF G A M) sz) ([] ++ va_pl (LM A) (mF G A M1))) (hS : va_S (mA (LM A) (mF G A M) sz) s.heap H locs) (x3 : Value) (hl : lv_has ls 4 [(0, .ref (A 0)), (1, .int (nI k)), (2, .int pp)])
    (ke : (o_at P T F (nI k) T.1 pp).1 = true → ∀ M2 : MS, M2.i = va_up (va_up M.i 8 (o_at P T F (nI k) T.1 pp).2.2.2.1) 9 (o_at P T F (nI k) T.1 pp).2.2.2.2.1 → M2.r = va_up M.r 12 (upd (M.r 12) np (o_at P T F (nI k) T.1 pp).2.2.2.2.2.2) → PQ 1 (LM A, mF G A M2))
    (kk : (o_at P T F (nI k) T.1 pp).1 = false → ∀ (M2 : MS) (H : Heap) (locs : List Loc) (ls : Array Slot), M2.i = va_up (va_up M.i 8 (o_at P T F (nI k) T.1 pp).2.2.2.1) 9 (o_at P T F (nI k) T.1 pp).2.2.2.2.1 → M2.r = M.r → TM M2 T → va_P (gD G) cls9 ([] ++ va_pl (LM A) (mF G A M2)) H → va_D (mA (LM A) (mF G A M) sz) ([] ++ va_pl (LM A) (mF G A M2)) → va_S (mA (LM A) (mF G A M) sz) s.heap H locs → lv_has ls 4 [(0, .ref (A 0)), (1, .int (nI k))] → W p l e ({ frames := 3, cells := 0, slots := 0, locals := 71 } : Room) s m ([.ref (A 0)] : List Value).toArray below meth c H locs 0 0 (MQ below (va_Qi PQ (pz_B (gD G) cls9 (gT G) (mA (LM A) (mF G A M) sz)) (mA (LM A) (mF G A M) sz)) ([.ref (A 0)] : List Value).toArray s 0 0 (mA (LM A) (mF G A M) sz)) (F0 m 163 ls [])) :
      W p l e ({ frames := 3, cells := 0, slots := 0, locals := 71 } : Room) s m ([.ref (A 0)] : List Value).toArray below meth c H locs 0 0 (MQ below (va_Qi PQ (pz_B (gD G) cls9 (gT G) (mA (LM A) (mF G A M) sz)) (mA (LM A) (mF G A M) sz)) ([.ref (A 0)] : List Value).toArray s 0 0 (mA (LM A) (mF G A M) sz)) (F0 m 88 ls []) := by
  have htb : ∀ w ∈ TB, w.before _ s = true := fun w h => hts w (List.mem_cons_of_mem _ h)
  have q5 : M1.pg = nI np := (congrFun hi1 5).trans hM5
  have q8 : M1.be = P.2.2.1 := congrFun hi1 8
  have q9 : M1.le = P.2.2.2.1 := congrFun hi1 9
  refine lv_aload_n hx hb d_MD_breaks_88 rfl (lv_at hl 0 rfl) ?_
  refine lv_aload_n hx hb d_MD_breaks_89 rfl (lv_at hl 0 rfl) ?_
  have h_1 : mF G A M1 (A 0) = .inr (10, [.int M1.th, .ref (A 1), .ref (A 2), .ref (A 3), .ref (A 4), .ref (A 5), .int M1.ct, .int M1.ht, .int M1.tp, .int M1.gr, .ref (A 6), .ref (A 7), .ref (A 8), .ref (A 9), .ref (A 10), .ref (A 11), .ref (A 12), .int M1.pg, .int M1.bg, .int M1.io, .int M1.be, .int M1.le, .long M1.ln, .long M1.dp, .ref (A 13), .long M1.sh]) := mf_at hA9 M1 0 (by decide)
  refine pz_get (ci := 10) (C := "PageMakerModel") (T := T_MD) (N := 26) hx hb htb in_MD hown hK hP (lm_in (by decide)) h_1 rfl 17 (by decide) (htb _ tw_699) (fun _ h9 => h9) rfl d_MD_breaks_90 ?_
  refine lv_topi (fun x2 ex2 => ?_)
  have ex2 : x2 = nI np := ex2.trans (q5)
  subst ex2
  refine lv_iload_n hx hb d_MD_breaks_93 rfl (lv_at hl 2 rfl) ?_
  obtain ⟨C, hC⟩ : ∃ C, C = k_cost (o_bad T F.1 T.1) pp := ⟨_, rfl⟩
  have hC0 : k_cost (k_boe M1.g M1.sh (F.1.toInt64 - M1.ln)) pp = C := by rw [ob_tm hT]; exact hC.symm
  refine vp_callSi (va_Run.run (va_runV (As := [.int (nI np), .int pp]) (rest := []) ⟨hx, hb, hml, hown, hts⟩ (c_MD_cost l G A hA9 M1 _ np F.1 pp (by omega) (by rw [show M1.hs = M.hs from congrFun hr1 6]; exact hpg.1) hnn) (cwV 2 hts (tb_V tw_809 tw_811 tp_20 tw_8 tw_812) rfl rfl rfl (by decide +kernel) ⟨(Nat.le_of_ble_eq_true rfl), (Nat.le_of_ble_eq_true rfl)⟩) (pz_preV (zz_ok _ _ _) hK hP hD hS hA hz (ci := 10) rfl rfl (lm_in (by decide)) h_1) rfl rfl hl.1 rfl (lv_room (Nat.le_of_ble_eq_true rfl)) d_MD_breaks_94 ⟨(Nat.le_of_ble_eq_true rfl), (Nat.le_of_ble_eq_true rfl)⟩)) (fun r7 hw => ?_)
  have hw : r7 = C := hw.trans hC0
  rw [hw]
  have hoa : o_at P T F (nI k) T.1 pp = if o_ends C pp then (true, o_end (o_best P (nI k) (o_bad T F.1 T.1) C) (nI k)) else (false, o_best P (nI k) (o_bad T F.1 T.1) C) := by rw [hC]; rfl
  refine lv_istore_n (lv' := [(3, .int C), (0, .ref (A 0)), (1, .int (nI k)), (2, .int pp)]) hx hb d_MD_breaks_97 rfl hl (by decide) rfl (fun ls hl => ?_)
  refine lv_aload_n hx hb d_MD_breaks_98 rfl (lv_at hl 1 rfl) ?_
  refine lv_iload_n hx hb d_MD_breaks_99 rfl (lv_at hl 0 rfl) ?_
  refine lv_aload_n hx hb d_MD_breaks_100 rfl (lv_at hl 1 rfl) ?_
  refine pz_get (ci := 10) (C := "PageMakerModel") (T := T_MD) (N := 26) hx hb htb in_MD hown hK hP (lm_in (by decide)) h_1 rfl 21 (by decide) (htb _ tw_703) (fun _ h9 => h9) rfl d_MD_breaks_101 ?_
  refine lv_topi (fun x3 ex3 => ?_)
  have ex3 : x3 = P.2.2.2.1 := ex3.trans (q9)
  subst ex3
  refine lv_icmp_gt (tgt := 111) hx hb d_MD_breaks_104 (by decide) (fun c_4 => ?_) (fun c_4 => ?_)
  · refine lv_aload_n hx hb d_MD_breaks_111 rfl (lv_at hl 1 rfl) ?_
    refine pz_get (ci := 10) (C := "PageMakerModel") (T := T_MD) (N := 26) hx hb htb in_MD hown hK hP (lm_in (by decide)) h_1 rfl 20 (by decide) (htb _ tw_702) (fun _ h9 => h9) rfl d_MD_breaks_112 ?_
    refine lv_topi (fun x5 ex5 => ?_)
    have ex5 : x5 = P.2.2.1 := ex5.trans (q8)
    subst ex5
    refine pz_put (ci := 10) (v := .int P.2.2.1) (ty := .int) (C := "PageMakerModel") (T := T_MD) (N := 26) hx hb htb in_MD ty_MD to_MD nm_MD hown hK hP hD hS (lm_in (by decide)) h_1 rfl 20 (by decide) (htb _ tw_702) (fun _ h9 => h9) rfl rfl rfl rfl (Nat.le_of_ble_eq_true rfl) d_MD_breaks_115 (fun f6 H locs ef6 hP hD hS => ?_)
    have ef6 : f6 = va_up (mF G A M1) (A 0) (.inr (10, [.int M1.th, .ref (A 1), .ref (A 2), .ref (A 3), .ref (A 4), .ref (A 5), .int M1.ct, .int M1.ht, .int M1.tp, .int M1.gr, .ref (A 6), .ref (A 7), .ref (A 8), .ref (A 9), .ref (A 10), .ref (A 11), .ref (A 12), .int M1.pg, .int M1.bg, .int M1.io, .int P.2.2.1, .int M1.le, .long M1.ln, .long M1.dp, .ref (A 13), .long M1.sh])) := ef6
    have ef6 : f6 = mF G A (M1.si 8 P.2.2.1) := ef6.trans (mf_o hA9 (M1 := M1.si 8 P.2.2.1) rfl rfl)
    subst ef6
    refine lv_aload_n hx hb d_MD_breaks_118 rfl (lv_at hl 1 rfl) ?_
    refine lv_iload_n hx hb d_MD_breaks_119 rfl (lv_at hl 0 rfl) ?_
    refine lv_aload_n hx hb d_MD_breaks_120 rfl (lv_at hl 1 rfl) ?_
    have h_7 : mF G A (M1.si 8 P.2.2.1) (A 0) = .inr (10, [.int M1.th, .ref (A 1), .ref (A 2), .ref (A 3), .ref (A 4), .ref (A 5), .int M1.ct, .int M1.ht, .int M1.tp, .int M1.gr, .ref (A 6), .ref (A 7), .ref (A 8), .ref (A 9), .ref (A 10), .ref (A 11), .ref (A 12), .int M1.pg, .int M1.bg, .int M1.io, .int P.2.2.1, .int M1.le, .long M1.ln, .long M1.dp, .ref (A 13), .long M1.sh]) := mf_at hA9 (M1.si 8 P.2.2.1) 0 (by decide)
    refine pz_get (ci := 10) (C := "PageMakerModel") (T := T_MD) (N := 26) hx hb htb in_MD hown hK hP (lm_in (by decide)) h_7 rfl 21 (by decide) (htb _ tw_703) (fun _ h9 => h9) rfl d_MD_breaks_121 ?_
    refine lv_topi (fun x8 ex8 => ?_)
    have ex8 : x8 = P.2.2.2.1 := ex8.trans (q9)
    subst ex8
    refine lv_icmp_gt (tgt := 131) hx hb d_MD_breaks_124 (by decide) (fun _ => ?_) (fun c0 => absurd c_4 c0)
    refine lv_aload_n hx hb d_MD_breaks_131 rfl (lv_at hl 1 rfl) ?_
    refine pz_get (ci := 10) (C := "PageMakerModel") (T := T_MD) (N := 26) hx hb htb in_MD hown hK hP (lm_in (by decide)) h_7 rfl 21 (by decide) (htb _ tw_703) (fun _ h9 => h9) rfl d_MD_breaks_132 ?_
    refine lv_topi (fun x9 ex9 => ?_)
    have ex9 : x9 = P.2.2.2.1 := ex9.trans (q9)
    subst ex9
    refine pz_put (ci := 10) (v := .int P.2.2.2.1) (ty := .int) (C := "PageMakerModel") (T := T_MD) (N := 26) hx hb htb in_MD ty_MD to_MD nm_MD hown hK hP hD hS (lm_in (by decide)) h_7 rfl 21 (by decide) (htb _ tw_703) (fun _ h9 => h9) rfl rfl rfl rfl (Nat.le_of_ble_eq_true rfl) d_MD_breaks_135 (fun f10 H locs ef10 hP hD hS => ?_)
    have ef10 : f10 = va_up (mF G A (M1.si 8 P.2.2.1)) (A 0) (.inr (10, [.int M1.th, .ref (A 1), .ref (A 2), .ref (A 3), .ref (A 4), .ref (A 5), .int M1.ct, .int M1.ht, .int M1.tp, .int M1.gr, .ref (A 6), .ref (A 7), .ref (A 8), .ref (A 9), .ref (A 10), .ref (A 11), .ref (A 12), .int M1.pg, .int M1.bg, .int M1.io, .int P.2.2.1, .int P.2.2.2.1, .long M1.ln, .long M1.dp, .ref (A 13), .long M1.sh])) := ef10
    have ef10 : f10 = mF G A ((M1.si 8 P.2.2.1).si 9 P.2.2.2.1) := ef10.trans (mf_o hA9 (M1 := (M1.si 8 P.2.2.1).si 9 P.2.2.2.1) rfl rfl)
    subst ef10
    refine lv_iload_n hx hb d_MD_breaks_138 rfl (lv_at hl 0 rfl) ?_
    refine lv_ldc (v := 1073741823) hx hb hown (htb _ tw_681) d_MD_breaks_139 ?_
    have hbe : o_best P (nI k) (o_bad T F.1 T.1) C = P := if_neg (i32_nle c_4)
    rw [hbe] at hoa
    refine lv_icmp_eq (tgt := 151) hx hb d_MD_breaks_141 (by decide) (fun c_11 => ?_) (fun c_11 => ?_)
    · refine lv_aload_n hx hb d_MD_breaks_151 rfl (lv_at hl 1 rfl) ?_
      have h_12 : mF G A ((M1.si 8 P.2.2.1).si 9 P.2.2.2.1) (A 0) = .inr (10, [.int M1.th, .ref (A 1), .ref (A 2), .ref (A 3), .ref (A 4), .ref (A 5), .int M1.ct, .int M1.ht, .int M1.tp, .int M1.gr, .ref (A 6), .ref (A 7), .ref (A 8), .ref (A 9), .ref (A 10), .ref (A 11), .ref (A 12), .int M1.pg, .int M1.bg, .int M1.io, .int P.2.2.1, .int P.2.2.2.1, .long M1.ln, .long M1.dp, .ref (A 13), .long M1.sh]) := mf_at hA9 ((M1.si 8 P.2.2.1).si 9 P.2.2.2.1) 0 (by decide)
      refine pz_get (ci := 10) (C := "PageMakerModel") (T := T_MD) (N := 26) hx hb htb in_MD hown hK hP (lm_in (by decide)) h_12 rfl 16 (by decide) (htb _ tw_698) (fun _ h9 => h9) rfl d_MD_breaks_152 ?_
      refine lv_aload_n hx hb d_MD_breaks_155 rfl (lv_at hl 1 rfl) ?_
      refine pz_get (ci := 10) (C := "PageMakerModel") (T := T_MD) (N := 26) hx hb htb in_MD hown hK hP (lm_in (by decide)) h_12 rfl 17 (by decide) (htb _ tw_699) (fun _ h9 => h9) rfl d_MD_breaks_156 ?_
      refine lv_topi (fun x13 ex13 => ?_)
      have ex13 : x13 = nI np := ex13.trans (q5)
      subst ex13
      refine lv_iload_n hx hb d_MD_breaks_159 rfl (lv_at hl 2 rfl) ?_
      have h_14 : mF G A ((M1.si 8 P.2.2.1).si 9 P.2.2.2.1) (A 12) = .inl (cI G, 2001, .inl M1.en) := mf_at hA9 ((M1.si 8 P.2.2.1).si 9 P.2.2.2.1) 12 (by decide)
      refine pz_iast (j := np) hx hb hK hP hD hS 0 (lm_in (by decide)) h_14 rfl (by omega) (by decide) d_MD_breaks_160 (fun f15 H locs ef15 hP hD hS => ?_)
      have ef15 : f15 = mF G A (((M1.si 8 P.2.2.1).si 9 P.2.2.2.1).sr 12 (upd M1.en np (nI k))) := ef15.trans (mf_r hA9 (M := (M1.si 8 P.2.2.1).si 9 P.2.2.2.1) 12 (by decide) (by decide))
      subst ef15
      refine lv_iconst (v := 1) hx hb d_MD_breaks_161 (by decide) ?_
      rw [hoa, if_pos (show o_ends C pp from Or.inl c_11)] at ke
      exact pz_iret hx hb hr rfl hlocks hK hP hD hS (Nat.le_refl _) (Nat.le_refl _) (ke rfl _ (by show va_up (va_up M1.i 8 _) 9 _ = _; rw [hi1]; exact br_i _ _ _ _ _) (by show va_up M1.r 12 (upd (M1.r 12) np _) = _; rw [hr1]; rfl)) d_MD_breaks_162
    · refine lv_iload_n hx hb d_MD_breaks_144 rfl (lv_at hl 3 rfl) ?_
      refine lv_sipush (v := (-10000)) hx hb d_MD_breaks_145 (by decide) ?_
      refine lv_icmp_gt (tgt := 163) hx hb d_MD_breaks_148 (by decide) (fun c_16 => ?_) (fun c_16 => ?_)
      · rw [hoa, if_neg (show ¬ o_ends C pp from fun h => h.elim c_11 (i32_nle c_16))] at kk
        exact kk rfl ((M1.si 8 P.2.2.1).si 9 P.2.2.2.1) H locs ls (by show va_up (va_up M1.i 8 _) 9 _ = _; rw [hi1]; exact br_i _ _ _ _ _) hr1 hT hP hD hS (lv_sub hl [1, 2] rfl)
      · refine lv_aload_n hx hb d_MD_breaks_151 rfl (lv_at hl 1 rfl) ?_
        have h_17 : mF G A ((M1.si 8 P.2.2.1).si 9 P.2.2.2.1) (A 0) = .inr (10, [.int M1.th, .ref (A 1), .ref (A 2), .ref (A 3), .ref (A 4), .ref (A 5), .int M1.ct, .int M1.ht, .int M1.tp, .int M1.gr, .ref (A 6), .ref (A 7), .ref (A 8), .ref (A 9), .ref (A 10), .ref (A 11), .ref (A 12), .int M1.pg, .int M1.bg, .int M1.io, .int P.2.2.1, .int P.2.2.2.1, .long M1.ln, .long M1.dp, .ref (A 13), .long M1.sh]) := mf_at hA9 ((M1.si 8 P.2.2.1).si 9 P.2.2.2.1) 0 (by decide)
        refine pz_get (ci := 10) (C := "PageMakerModel") (T := T_MD) (N := 26) hx hb htb in_MD hown hK hP (lm_in (by decide)) h_17 rfl 16 (by decide) (htb _ tw_698) (fun _ h9 => h9) rfl d_MD_breaks_152 ?_
        refine lv_aload_n hx hb d_MD_breaks_155 rfl (lv_at hl 1 rfl) ?_
        refine pz_get (ci := 10) (C := "PageMakerModel") (T := T_MD) (N := 26) hx hb htb in_MD hown hK hP (lm_in (by decide)) h_17 rfl 17 (by decide) (htb _ tw_699) (fun _ h9 => h9) rfl d_MD_breaks_156 ?_
        refine lv_topi (fun x18 ex18 => ?_)
        have ex18 : x18 = nI np := ex18.trans (q5)
        subst ex18
        refine lv_iload_n hx hb d_MD_breaks_159 rfl (lv_at hl 2 rfl) ?_
        have h_19 : mF G A ((M1.si 8 P.2.2.1).si 9 P.2.2.2.1) (A 12) = .inl (cI G, 2001, .inl M1.en) := mf_at hA9 ((M1.si 8 P.2.2.1).si 9 P.2.2.2.1) 12 (by decide)
        refine pz_iast (j := np) hx hb hK hP hD hS 0 (lm_in (by decide)) h_19 rfl (by omega) (by decide) d_MD_breaks_160 (fun f20 H locs ef20 hP hD hS => ?_)
        have ef20 : f20 = mF G A (((M1.si 8 P.2.2.1).si 9 P.2.2.2.1).sr 12 (upd M1.en np (nI k))) := ef20.trans (mf_r hA9 (M := (M1.si 8 P.2.2.1).si 9 P.2.2.2.1) 12 (by decide) (by decide))
        subst ef20
        refine lv_iconst (v := 1) hx hb d_MD_breaks_161 (by decide) ?_
        rw [hoa, if_pos (show o_ends C pp from Or.inr (i32_le c_16))] at ke
        exact pz_iret hx hb hr rfl hlocks hK hP hD hS (Nat.le_refl _) (Nat.le_refl _) (ke rfl _ (by show va_up (va_up M1.i 8 _) 9 _ = _; rw [hi1]; exact br_i _ _ _ _ _) (by show va_up M1.r 12 (upd (M1.r 12) np _) = _; rw [hr1]; rfl)) d_MD_breaks_162
  · refine lv_iload_n hx hb d_MD_breaks_107 rfl (lv_at hl 2 rfl) ?_
    refine lv_goto (tgt := 115) hx hb d_MD_breaks_108 (by decide) ?_
    refine pz_put (ci := 10) (v := .int (nI k)) (ty := .int) (C := "PageMakerModel") (T := T_MD) (N := 26) hx hb htb in_MD ty_MD to_MD nm_MD hown hK hP hD hS (lm_in (by decide)) h_1 rfl 20 (by decide) (htb _ tw_702) (fun _ h9 => h9) rfl rfl rfl rfl (Nat.le_of_ble_eq_true rfl) d_MD_breaks_115 (fun f21 H locs ef21 hP hD hS => ?_)
    have ef21 : f21 = va_up (mF G A M1) (A 0) (.inr (10, [.int M1.th, .ref (A 1), .ref (A 2), .ref (A 3), .ref (A 4), .ref (A 5), .int M1.ct, .int M1.ht, .int M1.tp, .int M1.gr, .ref (A 6), .ref (A 7), .ref (A 8), .ref (A 9), .ref (A 10), .ref (A 11), .ref (A 12), .int M1.pg, .int M1.bg, .int M1.io, .int (nI k), .int M1.le, .long M1.ln, .long M1.dp, .ref (A 13), .long M1.sh])) := ef21
    have ef21 : f21 = mF G A (M1.si 8 (nI k)) := ef21.trans (mf_o hA9 (M1 := M1.si 8 (nI k)) rfl rfl)
    subst ef21
    refine lv_aload_n hx hb d_MD_breaks_118 rfl (lv_at hl 1 rfl) ?_
    refine lv_iload_n hx hb d_MD_breaks_119 rfl (lv_at hl 0 rfl) ?_
    refine lv_aload_n hx hb d_MD_breaks_120 rfl (lv_at hl 1 rfl) ?_
    have h_22 : mF G A (M1.si 8 (nI k)) (A 0) = .inr (10, [.int M1.th, .ref (A 1), .ref (A 2), .ref (A 3), .ref (A 4), .ref (A 5), .int M1.ct, .int M1.ht, .int M1.tp, .int M1.gr, .ref (A 6), .ref (A 7), .ref (A 8), .ref (A 9), .ref (A 10), .ref (A 11), .ref (A 12), .int M1.pg, .int M1.bg, .int M1.io, .int (nI k), .int M1.le, .long M1.ln, .long M1.dp, .ref (A 13), .long M1.sh]) := mf_at hA9 (M1.si 8 (nI k)) 0 (by decide)
    refine pz_get (ci := 10) (C := "PageMakerModel") (T := T_MD) (N := 26) hx hb htb in_MD hown hK hP (lm_in (by decide)) h_22 rfl 21 (by decide) (htb _ tw_703) (fun _ h9 => h9) rfl d_MD_breaks_121 ?_
    refine lv_topi (fun x23 ex23 => ?_)
    have ex23 : x23 = P.2.2.2.1 := ex23.trans (q9)
    subst ex23
    refine lv_icmp_gt (tgt := 131) hx hb d_MD_breaks_124 (by decide) (fun c0 => absurd c0 (i32_nlt (i32_le c_4))) (fun _ => ?_)
    refine lv_iload_n hx hb d_MD_breaks_127 rfl (lv_at hl 0 rfl) ?_
    refine lv_goto (tgt := 135) hx hb d_MD_breaks_128 (by decide) ?_
    refine pz_put (ci := 10) (v := .int C) (ty := .int) (C := "PageMakerModel") (T := T_MD) (N := 26) hx hb htb in_MD ty_MD to_MD nm_MD hown hK hP hD hS (lm_in (by decide)) h_22 rfl 21 (by decide) (htb _ tw_703) (fun _ h9 => h9) rfl rfl rfl rfl (Nat.le_of_ble_eq_true rfl) d_MD_breaks_135 (fun f24 H locs ef24 hP hD hS => ?_)
    have ef24 : f24 = va_up (mF G A (M1.si 8 (nI k))) (A 0) (.inr (10, [.int M1.th, .ref (A 1), .ref (A 2), .ref (A 3), .ref (A 4), .ref (A 5), .int M1.ct, .int M1.ht, .int M1.tp, .int M1.gr, .ref (A 6), .ref (A 7), .ref (A 8), .ref (A 9), .ref (A 10), .ref (A 11), .ref (A 12), .int M1.pg, .int M1.bg, .int M1.io, .int (nI k), .int C, .long M1.ln, .long M1.dp, .ref (A 13), .long M1.sh])) := ef24
    have ef24 : f24 = mF G A ((M1.si 8 (nI k)).si 9 C) := ef24.trans (mf_o hA9 (M1 := (M1.si 8 (nI k)).si 9 C) rfl rfl)
    subst ef24
    refine lv_iload_n hx hb d_MD_breaks_138 rfl (lv_at hl 0 rfl) ?_
    refine lv_ldc (v := 1073741823) hx hb hown (htb _ tw_681) d_MD_breaks_139 ?_
    have hbe : o_best P (nI k) (o_bad T F.1 T.1) C = (P.1, P.2.1, nI k, C, o_bad T F.1 T.1, P.2.2.2.2.2) := if_pos (i32_le c_4)
    rw [hbe] at hoa
    refine lv_icmp_eq (tgt := 151) hx hb d_MD_breaks_141 (by decide) (fun c_25 => ?_) (fun c_25 => ?_)
    · refine lv_aload_n hx hb d_MD_breaks_151 rfl (lv_at hl 1 rfl) ?_
      have h_26 : mF G A ((M1.si 8 (nI k)).si 9 C) (A 0) = .inr (10, [.int M1.th, .ref (A 1), .ref (A 2), .ref (A 3), .ref (A 4), .ref (A 5), .int M1.ct, .int M1.ht, .int M1.tp, .int M1.gr, .ref (A 6), .ref (A 7), .ref (A 8), .ref (A 9), .ref (A 10), .ref (A 11), .ref (A 12), .int M1.pg, .int M1.bg, .int M1.io, .int (nI k), .int C, .long M1.ln, .long M1.dp, .ref (A 13), .long M1.sh]) := mf_at hA9 ((M1.si 8 (nI k)).si 9 C) 0 (by decide)
      refine pz_get (ci := 10) (C := "PageMakerModel") (T := T_MD) (N := 26) hx hb htb in_MD hown hK hP (lm_in (by decide)) h_26 rfl 16 (by decide) (htb _ tw_698) (fun _ h9 => h9) rfl d_MD_breaks_152 ?_
      refine lv_aload_n hx hb d_MD_breaks_155 rfl (lv_at hl 1 rfl) ?_
      refine pz_get (ci := 10) (C := "PageMakerModel") (T := T_MD) (N := 26) hx hb htb in_MD hown hK hP (lm_in (by decide)) h_26 rfl 17 (by decide) (htb _ tw_699) (fun _ h9 => h9) rfl d_MD_breaks_156 ?_
      refine lv_topi (fun x27 ex27 => ?_)
      have ex27 : x27 = nI np := ex27.trans (q5)
      subst ex27
      refine lv_iload_n hx hb d_MD_breaks_159 rfl (lv_at hl 2 rfl) ?_
      have h_28 : mF G A ((M1.si 8 (nI k)).si 9 C) (A 12) = .inl (cI G, 2001, .inl M1.en) := mf_at hA9 ((M1.si 8 (nI k)).si 9 C) 12 (by decide)
      refine pz_iast (j := np) hx hb hK hP hD hS 0 (lm_in (by decide)) h_28 rfl (by omega) (by decide) d_MD_breaks_160 (fun f29 H locs ef29 hP hD hS => ?_)
      have ef29 : f29 = mF G A (((M1.si 8 (nI k)).si 9 C).sr 12 (upd M1.en np (nI k))) := ef29.trans (mf_r hA9 (M := (M1.si 8 (nI k)).si 9 C) 12 (by decide) (by decide))
      subst ef29
      refine lv_iconst (v := 1) hx hb d_MD_breaks_161 (by decide) ?_
      rw [hoa, if_pos (show o_ends C pp from Or.inl c_25)] at ke
      exact pz_iret hx hb hr rfl hlocks hK hP hD hS (Nat.le_refl _) (Nat.le_refl _) (ke rfl _ (by show va_up (va_up M1.i 8 _) 9 _ = _; rw [hi1]; exact br_i _ _ _ _ _) (by show va_up M1.r 12 (upd (M1.r 12) np _) = _; rw [hr1]; rfl)) d_MD_breaks_162
    · refine lv_iload_n hx hb d_MD_breaks_144 rfl (lv_at hl 3 rfl) ?_
      refine lv_sipush (v := (-10000)) hx hb d_MD_breaks_145 (by decide) ?_
      refine lv_icmp_gt (tgt := 163) hx hb d_MD_breaks_148 (by decide) (fun c_30 => ?_) (fun c_30 => ?_)
      · rw [hoa, if_neg (show ¬ o_ends C pp from fun h => h.elim c_25 (i32_nle c_30))] at kk
        exact kk rfl ((M1.si 8 (nI k)).si 9 C) H locs ls (by show va_up (va_up M1.i 8 _) 9 _ = _; rw [hi1]; exact br_i _ _ _ _ _) hr1 hT hP hD hS (lv_sub hl [1, 2] rfl)
      · refine lv_aload_n hx hb d_MD_breaks_151 rfl (lv_at hl 1 rfl) ?_
        have h_31 : mF G A ((M1.si 8 (nI k)).si 9 C) (A 0) = .inr (10, [.int M1.th, .ref (A 1), .ref (A 2), .ref (A 3), .ref (A 4), .ref (A 5), .int M1.ct, .int M1.ht, .int M1.tp, .int M1.gr, .ref (A 6), .ref (A 7), .ref (A 8), .ref (A 9), .ref (A 10), .ref (A 11), .ref (A 12), .int M1.pg, .int M1.bg, .int M1.io, .int (nI k), .int C, .long M1.ln, .long M1.dp, .ref (A 13), .long M1.sh]) := mf_at hA9 ((M1.si 8 (nI k)).si 9 C) 0 (by decide)
        refine pz_get (ci := 10) (C := "PageMakerModel") (T := T_MD) (N := 26) hx hb htb in_MD hown hK hP (lm_in (by decide)) h_31 rfl 16 (by decide) (htb _ tw_698) (fun _ h9 => h9) rfl d_MD_breaks_152 ?_
        refine lv_aload_n hx hb d_MD_breaks_155 rfl (lv_at hl 1 rfl) ?_
        refine pz_get (ci := 10) (C := "PageMakerModel") (T := T_MD) (N := 26) hx hb htb in_MD hown hK hP (lm_in (by decide)) h_31 rfl 17 (by decide) (htb _ tw_699) (fun _ h9 => h9) rfl d_MD_breaks_156 ?_
        refine lv_topi (fun x32 ex32 => ?_)
        have ex32 : x32 = nI np := ex32.trans (q5)
        subst ex32
        refine lv_iload_n hx hb d_MD_breaks_159 rfl (lv_at hl 2 rfl) ?_
        have h_33 : mF G A ((M1.si 8 (nI k)).si 9 C) (A 12) = .inl (cI G, 2001, .inl M1.en) := mf_at hA9 ((M1.si 8 (nI k)).si 9 C) 12 (by decide)
        refine pz_iast (j := np) hx hb hK hP hD hS 0 (lm_in (by decide)) h_33 rfl (by omega) (by decide) d_MD_breaks_160 (fun f34 H locs ef34 hP hD hS => ?_)
        have ef34 : f34 = mF G A (((M1.si 8 (nI k)).si 9 C).sr 12 (upd M1.en np (nI k))) := ef34.trans (mf_r hA9 (M := (M1.si 8 (nI k)).si 9 C) 12 (by decide) (by decide))
        subst ef34
        refine lv_iconst (v := 1) hx hb d_MD_breaks_161 (by decide) ?_
        rw [hoa, if_pos (show o_ends C pp from Or.inr (i32_le c_30))] at ke
        exact pz_iret hx hb hr rfl hlocks hK hP hD hS (Nat.le_refl _) (Nat.le_refl _) (ke rfl _ (by show va_up (va_up M1.i 8 _) 9 _ = _; rw [hi1]; exact br_i _ _ _ _ _) (by show va_up M1.r 12 (upd (M1.r 12) np _) = _; rw [hr1]; rfl)) d_MD_breaks_162
set_option maxHeartbeats 8000000 in
set_option maxRecDepth 100000 in
/-- model: breaks, its loop at the place a + j + 1 -/
theorem lp_breaks (l : Launch) (G : gG) (A : Nat → Nat) (hA9 : mJn A) (M : MS) (sz : Nat) (its : List It) (F : Fr) (a np : Nat) {p : Program} {e : Env} {s : State} {m : MethodId} {below : List Frame} {meth : Method} {c : Code} (hx : p.tables.exec = Jvm.exec) (hb : c.code = prog_12_method_15_code) (hr : meth.sig.returnType = (some .boolean)) (hml : c.maxLocals = 4) (hts : ∀ w ∈ w_MD_breaks, w.before ([.ref (A 0)] : List Value).toArray s = true) (hown : s.vm.findClass "PageMakerModel" = some m.cls) (hlocks : meth.locks = false) (hK : va_K (gD G) cls9 (gT G) s) (hA : ∀ q, s.heap.size ≤ q → mA (LM A) (mF G A M) sz q) (hz : gZ G (mA (LM A) (mF G A M) sz) s s.heap) (hit : MIt M.r M.ct its) (hv : itsV its) (hpg : PR M.r np F a) (hnp : np ≤ 512) (hM5 : M.pg = nI np) (hM6 : M.bg = nI a) (hM7 : M.io = 1) (b0 b1 : Int32) (hbx : its[a]? = some (.inl (b0, b1))) :
    ∀ (mm j : Nat) (M1 : MS) (H : Heap) (locs : List Loc) (ls : Array Slot), a + j + 1 + mm = its.length → (∀ i, i < j → (sL its F a i).1 = false) → (pend its (a + j) = true → (sL its F a j).1 = false) → M1.i = va_up (va_up M.i 8 (qm its F a j).2.2.1) 9 (qm its F a j).2.2.2.1 → M1.r = M.r → TM M1 (t_list its F a (a + j + 1)) → va_P (gD G) cls9 ([] ++ va_pl (LM A) (mF G A M1)) H → va_D (mA (LM A) (mF G A M) sz) ([] ++ va_pl (LM A) (mF G A M1)) → va_S (mA (LM A) (mF G A M) sz) s.heap H locs → lv_has ls 4 [(0, .ref (A 0)), (1, .int (nI (a + j + 1)))] →
      W p l e ({ frames := 3, cells := 0, slots := 0, locals := 71 } : Room) s m ([.ref (A 0)] : List Value).toArray below meth c H locs 0 0 (MQ below (va_Qi (fun r u => ∃ M1, u = (LM A, mF G A M1) ∧ ((r = 1 ∧ ∃ j, a + j + 1 < its.length ∧ (∀ i, i < j → (sL its F a i).1 = false) ∧ (sL its F a j).1 = true ∧ M1.i = va_up (va_up M.i 8 (sL its F a j).2.2.2.1) 9 (sL its F a j).2.2.2.2.1 ∧ M1.r = va_up M.r 12 (upd (M.r 12) np (sL its F a j).2.2.2.2.2.2)) ∨ (r = 0 ∧ (∀ i, a + i + 1 < its.length → (sL its F a i).1 = false) ∧ M1.i = va_up (va_up M.i 8 (sP its F a (its.length - a - 1)).2.2.1) 9 (sP its F a (its.length - a - 1)).2.2.2.1 ∧ M1.r = M.r))) (pz_B (gD G) cls9 (gT G) (mA (LM A) (mF G A M) sz)) (mA (LM A) (mF G A M) sz)) ([.ref (A 0)] : List Value).toArray s 0 0 (mA (LM A) (mF G A M) sz)) (F0 m 47 ls []) := by
  have htb : ∀ w ∈ TB, w.before _ s = true := fun w h => hts w (List.mem_cons_of_mem _ h)
  have hn5 : its.length ≤ 512 := hit.2.1
  intro mm
  induction mm with
  | zero =>
    intro j M1 H locs ls hk hb1 hb2 hi1 hr1 hT hP hD hS hl
    have q1 : M1.ct = nI its.length := (congrFun hi1 1).trans hit.1
    have q5 : M1.pg = nI np := (congrFun hi1 5).trans hM5
    have hit1 : MIt M1.r M1.ct its := ⟨q1, hn5, by rw [hr1]; exact hit.2.2⟩
    refine lv_iload_n hx hb d_MD_breaks_47 rfl (lv_at hl 1 rfl) ?_
    refine lv_aload_n hx hb d_MD_breaks_48 rfl (lv_at hl 0 rfl) ?_
    have h_1 : mF G A M1 (A 0) = .inr (10, [.int M1.th, .ref (A 1), .ref (A 2), .ref (A 3), .ref (A 4), .ref (A 5), .int M1.ct, .int M1.ht, .int M1.tp, .int M1.gr, .ref (A 6), .ref (A 7), .ref (A 8), .ref (A 9), .ref (A 10), .ref (A 11), .ref (A 12), .int M1.pg, .int M1.bg, .int M1.io, .int M1.be, .int M1.le, .long M1.ln, .long M1.dp, .ref (A 13), .long M1.sh]) := mf_at hA9 M1 0 (by decide)
    refine pz_get (ci := 10) (C := "PageMakerModel") (T := T_MD) (N := 26) hx hb htb in_MD hown hK hP (lm_in (by decide)) h_1 rfl 6 (by decide) (htb _ tw_688) (fun _ h9 => h9) rfl d_MD_breaks_49 ?_
    refine lv_topi (fun x2 ex2 => ?_)
    have ex2 : x2 = nI its.length := ex2.trans (q1)
    subst ex2
    refine lv_icmp_ge (tgt := 178) hx hb d_MD_breaks_52 (by decide) (fun _ => ?_) (fun c0 => absurd (nI_le (by omega) (by omega)) c0)
    refine lv_iconst (v := 0) hx hb d_MD_breaks_178 (by decide) ?_
    have hj : its.length - a - 1 = j := by omega
    have hnp9 : its[a + j + 1]? = none := List.getElem?_eq_none (by omega)
    have hqm : qm its F a j = sP its F a j := qm_none hnp9
    rw [hqm] at hi1
    exact pz_iret hx hb hr rfl hlocks hK hP hD hS (Nat.le_refl _) (Nat.le_refl _) ⟨M1, rfl, Or.inr ⟨rfl, fun i hi => hb1 i (by omega), by rw [hj]; exact hi1, hr1⟩⟩ d_MD_breaks_179
  | succ mm ih =>
    intro j M1 H locs ls hk hb1 hb2 hi1 hr1 hT hP hD hS hl
    have q1 : M1.ct = nI its.length := (congrFun hi1 1).trans hit.1
    have q5 : M1.pg = nI np := (congrFun hi1 5).trans hM5
    have hit1 : MIt M1.r M1.ct its := ⟨q1, hn5, by rw [hr1]; exact hit.2.2⟩
    have hk1 : a + j + 1 < its.length := by omega
    obtain ⟨it, hi9⟩ : ∃ it, its[a + j + 1]? = some it := ⟨_, List.getElem?_eq_getElem hk1⟩
    obtain ⟨it1, hi0⟩ : ∃ it, its[a + j]? = some it := ⟨_, List.getElem?_eq_getElem (by omega)⟩
    have hsL := sL_eq (F := F) hi9
    rw [hi0] at hsL
    have hts9 := t_list_succ (F := F) (show a ≤ a + j + 1 by omega) hi9
    have hnn : NN M1 := nn_of hT (by have h9 := tn_list (F := F) (a := a) hv hn5 (j + 1) (by omega); exact h9) (by omega)
    obtain ⟨him0, hok⟩ := hit.2.2 _ it hi9
    have him : itM M1.r (a + j + 1) it := by rw [hr1]; exact him0
    have hnm : ¬ (sP its F a j).1 = (-1) := by rw [sP_1]; exact nI_nm (by omega)
    refine lv_iload_n hx hb d_MD_breaks_47 rfl (lv_at hl 1 rfl) ?_
    refine lv_aload_n hx hb d_MD_breaks_48 rfl (lv_at hl 0 rfl) ?_
    have h_3 : mF G A M1 (A 0) = .inr (10, [.int M1.th, .ref (A 1), .ref (A 2), .ref (A 3), .ref (A 4), .ref (A 5), .int M1.ct, .int M1.ht, .int M1.tp, .int M1.gr, .ref (A 6), .ref (A 7), .ref (A 8), .ref (A 9), .ref (A 10), .ref (A 11), .ref (A 12), .int M1.pg, .int M1.bg, .int M1.io, .int M1.be, .int M1.le, .long M1.ln, .long M1.dp, .ref (A 13), .long M1.sh]) := mf_at hA9 M1 0 (by decide)
    refine pz_get (ci := 10) (C := "PageMakerModel") (T := T_MD) (N := 26) hx hb htb in_MD hown hK hP (lm_in (by decide)) h_3 rfl 6 (by decide) (htb _ tw_688) (fun _ h9 => h9) rfl d_MD_breaks_49 ?_
    refine lv_topi (fun x4 ex4 => ?_)
    have ex4 : x4 = nI its.length := ex4.trans (q1)
    subst ex4
    refine lv_icmp_ge (tgt := 178) hx hb d_MD_breaks_52 (by decide) (fun c0 => absurd c0 (nI_ge (by omega) (by omega))) (fun _ => ?_)
    rcases it with ⟨ia, ib⟩ | ⟨ia, ib, io, id9⟩ | ia | ia
    · have him : itM M1.r (a + j + 1) (.inl (ia, ib)) := him
      have hsL : sL its F a j = c_look (sP its F a j) (t_list its F a (a + j + 1)) F (a + j + 1) (.inl (ia, ib)) (some it1) := hsL
      have hqn : pend its (a + (j + 1)) = false := pend_not hi9 (by intro w h9; cases h9)
      refine lv_aload_n hx hb d_MD_breaks_55 rfl (lv_at hl 0 rfl) ?_
      refine pz_get (ci := 10) (C := "PageMakerModel") (T := T_MD) (N := 26) hx hb htb in_MD hown hK hP (lm_in (by decide)) h_3 rfl 1 (by decide) (htb _ tw_683) (fun _ h9 => h9) rfl d_MD_breaks_56 ?_
      refine lv_iload_n hx hb d_MD_breaks_59 rfl (lv_at hl 1 rfl) ?_
      have h_5 : mF G A M1 (A 1) = .inl (cI G, 2000, .inl M1.kd) := mf_at hA9 M1 1 (by decide)
      refine pz_iald (j := (a + j + 1)) hx hb hK hP 0 (lm_in (by decide)) h_5 rfl (by omega) (by decide) d_MD_breaks_60 ?_
      refine lv_topi (fun x6 ex6 => ?_)
      have ex6 : x6 = 0 := ex6.trans (him.1)
      subst ex6
      refine lv_iconst (v := 2) hx hb d_MD_breaks_61 (by decide) ?_
      refine lv_icmp_ne (tgt := 75) hx hb d_MD_breaks_62 (by decide) (fun _ => ?_) (fun c0 => absurd c0 (by decide))
      have hq0 : qm its F a j = sP its F a j := qm_not hi9 (by intro a9 b9 c9 d9 h9; cases h9)
      have hno : sL its F a j = (false, sP its F a j) := hsL.trans (if_neg hnm)
      refine lv_aload_n hx hb d_MD_breaks_75 rfl (lv_at hl 0 rfl) ?_
      refine lv_iload_n hx hb d_MD_breaks_76 rfl (lv_at hl 1 rfl) ?_
      refine vp_callSi (va_Run.run (va_runV (As := [.int (nI (a + j + 1))]) (rest := []) ⟨hx, hb, hml, hown, hts⟩ (c_MD_penaltyAt l G A hA9 M1 _ its (a + j) hit1 hk1) (cwV 1 hts (tb_V tw_805 tw_807 tp_19 tw_8 tw_808) rfl rfl rfl (by decide +kernel) ⟨(Nat.le_of_ble_eq_true rfl), (Nat.le_of_ble_eq_true rfl)⟩) (pz_preV (zz_ok _ _ _) hK hP hD hS hA hz (ci := 10) rfl rfl (lm_in (by decide)) h_3) rfl rfl hl.1 rfl (lv_room (Nat.le_of_ble_eq_true rfl)) d_MD_breaks_77 ⟨(Nat.le_of_ble_eq_true rfl), (Nat.le_of_ble_eq_true rfl)⟩)) (fun r7 hw => ?_)
      have hw : r7 = (m_at its (a + j + 1)) := hw
      subst r7
      have hat : m_at its (a + j + 1) = 10000 := by rw [m_at, hi9]
      rw [hat]
      refine lv_istore_n (lv' := [(2, .int 10000), (0, .ref (A 0)), (1, .int (nI (a + j + 1)))]) hx hb d_MD_breaks_80 rfl hl (by decide) rfl (fun ls hl => ?_)
      refine lv_iload_n hx hb d_MD_breaks_81 rfl (lv_at hl 0 rfl) ?_
      refine lv_sipush (v := 10000) hx hb d_MD_breaks_82 (by decide) ?_
      refine lv_icmp_ge (tgt := 163) hx hb d_MD_breaks_85 (by decide) (fun _ => ?_) (fun c0 => absurd c0 (by decide))
      have p5 : M1.pg = nI np := (congrFun hi1 5).trans hM5
      refine lv_aload_n hx hb d_MD_breaks_163 rfl (lv_at hl 1 rfl) ?_
      refine lv_aload_n hx hb d_MD_breaks_164 rfl (lv_at hl 1 rfl) ?_
      refine pz_get (ci := 10) (C := "PageMakerModel") (T := T_MD) (N := 26) hx hb htb in_MD hown hK hP (lm_in (by decide)) h_3 rfl 17 (by decide) (htb _ tw_699) (fun _ h9 => h9) rfl d_MD_breaks_165 ?_
      refine lv_topi (fun x8 ex8 => ?_)
      have ex8 : x8 = nI np := ex8.trans (p5)
      subst ex8
      refine lv_iload_n hx hb d_MD_breaks_168 rfl (lv_at hl 2 rfl) ?_
      refine pz_cv (va_runV (As := [.int (nI np), .int (nI (a + j + 1))]) (rest := []) ⟨hx, hb, hml, hown, hts⟩ (c_MD_add l G A hA9 M1 _ _ np (a + j + 1) F.2.2 (.inl (ia, ib)) (by omega) (by omega) (by rw [show M1.ds = M.ds from congrFun hr1 8]; exact hpg.2.2.1) (by rw [hr1]; exact him0) hok hT) (cwV 2 hts (tb_V tw_801 tw_803 tp_18 tw_8 tw_804) rfl rfl rfl (by decide +kernel) ⟨(Nat.le_of_ble_eq_true rfl), (Nat.le_of_ble_eq_true rfl)⟩) (pz_preV (zz_ok _ _ _) hK hP hD hS hA hz (ci := 10) rfl rfl (lm_in (by decide)) h_3) rfl rfl hl.1 rfl (lv_room (Nat.le_of_ble_eq_true rfl)) d_MD_breaks_169 ⟨(Nat.le_of_ble_eq_true rfl), (Nat.le_of_ble_eq_true rfl)⟩) hP hD hS hA (fun L8 f8 H locs hw hP hD hS => ?_)
      obtain ⟨M3, hu, hmk3, hT3⟩ := hw
      have eL8 : L8 = LM A := (Prod.mk.inj hu).1
      have ef8 : f8 = mF G A M3 := (Prod.mk.inj hu).2
      subst eL8
      subst ef8
      refine lv_iinc (v := nI (a + (j + 1) + 1)) (lv' := [(1, .int (nI (a + (j + 1) + 1))), (2, .int 10000), (0, .ref (A 0))]) hx hb d_MD_breaks_172 hl (k := 2) rfl (nI_1 _) (by decide) rfl (fun ls hl => ?_)
      refine lv_goto (tgt := 47) hx hb d_MD_breaks_175 (by decide) ?_
      have hT3 : TM M3 (t_list its F a (a + (j + 1) + 1)) := by rw [show a + (j + 1) + 1 = a + j + 1 + 1 from rfl, hts9]; exact hT3
      exact ih (j + 1) M3 H locs ls (by omega) (br_all hb1 (by rw [hno])) (fun h9 => absurd (h9.symm.trans hqn) (by decide)) (by rw [hmk3.1, hi1]; exact br_q (by rw [qm_no hqn, sP_succ, hno, hq0])) (hmk3.2.trans hr1) hT3 hP hD hS (lv_sub hl [2, 0] rfl)
    · have him : itM M1.r (a + j + 1) (.inr (.inl (ia, ib, io, id9))) := him
      have hsL : sL its F a j = c_look (sP its F a j) (t_list its F a (a + j + 1)) F (a + j + 1) (.inr (.inl (ia, ib, io, id9))) (some it1) := hsL
      have hqn : pend its (a + (j + 1)) = false := pend_not hi9 (by intro w h9; cases h9)
      refine lv_aload_n hx hb d_MD_breaks_55 rfl (lv_at hl 0 rfl) ?_
      refine pz_get (ci := 10) (C := "PageMakerModel") (T := T_MD) (N := 26) hx hb htb in_MD hown hK hP (lm_in (by decide)) h_3 rfl 1 (by decide) (htb _ tw_683) (fun _ h9 => h9) rfl d_MD_breaks_56 ?_
      refine lv_iload_n hx hb d_MD_breaks_59 rfl (lv_at hl 1 rfl) ?_
      have h_9 : mF G A M1 (A 1) = .inl (cI G, 2000, .inl M1.kd) := mf_at hA9 M1 1 (by decide)
      refine pz_iald (j := (a + j + 1)) hx hb hK hP 0 (lm_in (by decide)) h_9 rfl (by omega) (by decide) d_MD_breaks_60 ?_
      refine lv_topi (fun x10 ex10 => ?_)
      have ex10 : x10 = 1 := ex10.trans (him.1)
      subst ex10
      refine lv_iconst (v := 2) hx hb d_MD_breaks_61 (by decide) ?_
      refine lv_icmp_ne (tgt := 75) hx hb d_MD_breaks_62 (by decide) (fun _ => ?_) (fun c0 => absurd c0 (by decide))
      rcases it1 with ⟨ja, jb⟩ | ⟨ja, jb, jo, jd9⟩ | ja | ja
      · have hq0 : qm its F a j = sP its F a j := qm_no (pend_not hi0 (by intro w h9; cases h9))
        have hlk : sL its F a j = o_at (sP its F a j) (t_list its F a (a + j + 1)) F (nI (a + j + 1)) (t_list its F a (a + j + 1)).1 0 := hsL.trans (if_neg hnm)
        refine lv_aload_n hx hb d_MD_breaks_75 rfl (lv_at hl 0 rfl) ?_
        refine lv_iload_n hx hb d_MD_breaks_76 rfl (lv_at hl 1 rfl) ?_
        refine vp_callSi (va_Run.run (va_runV (As := [.int (nI (a + j + 1))]) (rest := []) ⟨hx, hb, hml, hown, hts⟩ (c_MD_penaltyAt l G A hA9 M1 _ its (a + j) hit1 hk1) (cwV 1 hts (tb_V tw_805 tw_807 tp_19 tw_8 tw_808) rfl rfl rfl (by decide +kernel) ⟨(Nat.le_of_ble_eq_true rfl), (Nat.le_of_ble_eq_true rfl)⟩) (pz_preV (zz_ok _ _ _) hK hP hD hS hA hz (ci := 10) rfl rfl (lm_in (by decide)) h_3) rfl rfl hl.1 rfl (lv_room (Nat.le_of_ble_eq_true rfl)) d_MD_breaks_77 ⟨(Nat.le_of_ble_eq_true rfl), (Nat.le_of_ble_eq_true rfl)⟩)) (fun r11 hw => ?_)
        have hw : r11 = (m_at its (a + j + 1)) := hw
        subst r11
        have hat : m_at its (a + j + 1) = 0 := by rw [m_at, hi9, Nat.add_sub_cancel, hi0]
        rw [hat]
        refine lv_istore_n (lv' := [(2, .int 0), (0, .ref (A 0)), (1, .int (nI (a + j + 1)))]) hx hb d_MD_breaks_80 rfl hl (by decide) rfl (fun ls hl => ?_)
        refine lv_iload_n hx hb d_MD_breaks_81 rfl (lv_at hl 0 rfl) ?_
        refine lv_sipush (v := 10000) hx hb d_MD_breaks_82 (by decide) ?_
        refine lv_icmp_ge (tgt := 163) hx hb d_MD_breaks_85 (by decide) (fun c0 => absurd c0 (by decide)) (fun _ => ?_)
        refine lk_breaks l G A hA9 M sz its F a np hx hb hr hml hts hown hlocks hK hA hz hit hv hpg hnp hM5 hM6 hM7 b0 b1 hbx (a + j + 1) 0 (sP its F a j) _ M1 H locs ls _ (by omega) (by rw [← hq0]; exact hi1) hr1 hT hnn hP hD hS .null (lv_sub hl [1, 2, 0] rfl) ?_ ?_
        · intro hend M2 g1 g2
          exact ⟨M2, rfl, Or.inl ⟨rfl, j, hk1, hb1, by rw [hlk]; exact hend, by rw [hlk]; exact g1, by rw [hlk]; exact g2⟩⟩
        · intro hend M2 H locs ls hi2 hr2 hT2 hP hD hS hl
          have p5 : M2.pg = nI np := (congrFun hi2 5).trans hM5
          refine lv_aload_n hx hb d_MD_breaks_163 rfl (lv_at hl 0 rfl) ?_
          refine lv_aload_n hx hb d_MD_breaks_164 rfl (lv_at hl 0 rfl) ?_
          have h_12 : mF G A M2 (A 0) = .inr (10, [.int M2.th, .ref (A 1), .ref (A 2), .ref (A 3), .ref (A 4), .ref (A 5), .int M2.ct, .int M2.ht, .int M2.tp, .int M2.gr, .ref (A 6), .ref (A 7), .ref (A 8), .ref (A 9), .ref (A 10), .ref (A 11), .ref (A 12), .int M2.pg, .int M2.bg, .int M2.io, .int M2.be, .int M2.le, .long M2.ln, .long M2.dp, .ref (A 13), .long M2.sh]) := mf_at hA9 M2 0 (by decide)
          refine pz_get (ci := 10) (C := "PageMakerModel") (T := T_MD) (N := 26) hx hb htb in_MD hown hK hP (lm_in (by decide)) h_12 rfl 17 (by decide) (htb _ tw_699) (fun _ h9 => h9) rfl d_MD_breaks_165 ?_
          refine lv_topi (fun x13 ex13 => ?_)
          have ex13 : x13 = nI np := ex13.trans (p5)
          subst ex13
          refine lv_iload_n hx hb d_MD_breaks_168 rfl (lv_at hl 1 rfl) ?_
          refine pz_cv (va_runV (As := [.int (nI np), .int (nI (a + j + 1))]) (rest := []) ⟨hx, hb, hml, hown, hts⟩ (c_MD_add l G A hA9 M2 _ _ np (a + j + 1) F.2.2 (.inr (.inl (ia, ib, io, id9))) (by omega) (by omega) (by rw [show M2.ds = M.ds from congrFun hr2 8]; exact hpg.2.2.1) (by rw [hr2]; exact him0) hok hT2) (cwV 2 hts (tb_V tw_801 tw_803 tp_18 tw_8 tw_804) rfl rfl rfl (by decide +kernel) ⟨(Nat.le_of_ble_eq_true rfl), (Nat.le_of_ble_eq_true rfl)⟩) (pz_preV (zz_ok _ _ _) hK hP hD hS hA hz (ci := 10) rfl rfl (lm_in (by decide)) h_12) rfl rfl hl.1 rfl (lv_room (Nat.le_of_ble_eq_true rfl)) d_MD_breaks_169 ⟨(Nat.le_of_ble_eq_true rfl), (Nat.le_of_ble_eq_true rfl)⟩) hP hD hS hA (fun L8 f8 H locs hw hP hD hS => ?_)
          obtain ⟨M3, hu, hmk3, hT3⟩ := hw
          have eL8 : L8 = LM A := (Prod.mk.inj hu).1
          have ef8 : f8 = mF G A M3 := (Prod.mk.inj hu).2
          subst eL8
          subst ef8
          refine lv_iinc (v := nI (a + (j + 1) + 1)) (lv' := [(1, .int (nI (a + (j + 1) + 1))), (0, .ref (A 0))]) hx hb d_MD_breaks_172 hl (k := 1) rfl (nI_1 _) (by decide) rfl (fun ls hl => ?_)
          refine lv_goto (tgt := 47) hx hb d_MD_breaks_175 (by decide) ?_
          have hT3 : TM M3 (t_list its F a (a + (j + 1) + 1)) := by rw [show a + (j + 1) + 1 = a + j + 1 + 1 from rfl, hts9]; exact hT3
          exact ih (j + 1) M3 H locs ls (by omega) (br_all hb1 (by rw [hlk]; exact hend)) (fun h9 => absurd (h9.symm.trans hqn) (by decide)) (by rw [hmk3.1, hi2]; exact br_q (by rw [qm_no hqn, sP_succ, hlk])) (hmk3.2.trans hr2) hT3 hP hD hS (lv_sub hl [1, 0] rfl)
      · have hq0 : qm its F a j = sP its F a j := qm_no (pend_not hi0 (by intro w h9; cases h9))
        have hno : sL its F a j = (false, sP its F a j) := hsL.trans (if_neg hnm)
        refine lv_aload_n hx hb d_MD_breaks_75 rfl (lv_at hl 0 rfl) ?_
        refine lv_iload_n hx hb d_MD_breaks_76 rfl (lv_at hl 1 rfl) ?_
        refine vp_callSi (va_Run.run (va_runV (As := [.int (nI (a + j + 1))]) (rest := []) ⟨hx, hb, hml, hown, hts⟩ (c_MD_penaltyAt l G A hA9 M1 _ its (a + j) hit1 hk1) (cwV 1 hts (tb_V tw_805 tw_807 tp_19 tw_8 tw_808) rfl rfl rfl (by decide +kernel) ⟨(Nat.le_of_ble_eq_true rfl), (Nat.le_of_ble_eq_true rfl)⟩) (pz_preV (zz_ok _ _ _) hK hP hD hS hA hz (ci := 10) rfl rfl (lm_in (by decide)) h_3) rfl rfl hl.1 rfl (lv_room (Nat.le_of_ble_eq_true rfl)) d_MD_breaks_77 ⟨(Nat.le_of_ble_eq_true rfl), (Nat.le_of_ble_eq_true rfl)⟩)) (fun r14 hw => ?_)
        have hw : r14 = (m_at its (a + j + 1)) := hw
        subst r14
        have hat : m_at its (a + j + 1) = 10000 := by rw [m_at, hi9, Nat.add_sub_cancel, hi0]
        rw [hat]
        refine lv_istore_n (lv' := [(2, .int 10000), (0, .ref (A 0)), (1, .int (nI (a + j + 1)))]) hx hb d_MD_breaks_80 rfl hl (by decide) rfl (fun ls hl => ?_)
        refine lv_iload_n hx hb d_MD_breaks_81 rfl (lv_at hl 0 rfl) ?_
        refine lv_sipush (v := 10000) hx hb d_MD_breaks_82 (by decide) ?_
        refine lv_icmp_ge (tgt := 163) hx hb d_MD_breaks_85 (by decide) (fun _ => ?_) (fun c0 => absurd c0 (by decide))
        have p5 : M1.pg = nI np := (congrFun hi1 5).trans hM5
        refine lv_aload_n hx hb d_MD_breaks_163 rfl (lv_at hl 1 rfl) ?_
        refine lv_aload_n hx hb d_MD_breaks_164 rfl (lv_at hl 1 rfl) ?_
        refine pz_get (ci := 10) (C := "PageMakerModel") (T := T_MD) (N := 26) hx hb htb in_MD hown hK hP (lm_in (by decide)) h_3 rfl 17 (by decide) (htb _ tw_699) (fun _ h9 => h9) rfl d_MD_breaks_165 ?_
        refine lv_topi (fun x15 ex15 => ?_)
        have ex15 : x15 = nI np := ex15.trans (p5)
        subst ex15
        refine lv_iload_n hx hb d_MD_breaks_168 rfl (lv_at hl 2 rfl) ?_
        refine pz_cv (va_runV (As := [.int (nI np), .int (nI (a + j + 1))]) (rest := []) ⟨hx, hb, hml, hown, hts⟩ (c_MD_add l G A hA9 M1 _ _ np (a + j + 1) F.2.2 (.inr (.inl (ia, ib, io, id9))) (by omega) (by omega) (by rw [show M1.ds = M.ds from congrFun hr1 8]; exact hpg.2.2.1) (by rw [hr1]; exact him0) hok hT) (cwV 2 hts (tb_V tw_801 tw_803 tp_18 tw_8 tw_804) rfl rfl rfl (by decide +kernel) ⟨(Nat.le_of_ble_eq_true rfl), (Nat.le_of_ble_eq_true rfl)⟩) (pz_preV (zz_ok _ _ _) hK hP hD hS hA hz (ci := 10) rfl rfl (lm_in (by decide)) h_3) rfl rfl hl.1 rfl (lv_room (Nat.le_of_ble_eq_true rfl)) d_MD_breaks_169 ⟨(Nat.le_of_ble_eq_true rfl), (Nat.le_of_ble_eq_true rfl)⟩) hP hD hS hA (fun L8 f8 H locs hw hP hD hS => ?_)
        obtain ⟨M3, hu, hmk3, hT3⟩ := hw
        have eL8 : L8 = LM A := (Prod.mk.inj hu).1
        have ef8 : f8 = mF G A M3 := (Prod.mk.inj hu).2
        subst eL8
        subst ef8
        refine lv_iinc (v := nI (a + (j + 1) + 1)) (lv' := [(1, .int (nI (a + (j + 1) + 1))), (2, .int 10000), (0, .ref (A 0))]) hx hb d_MD_breaks_172 hl (k := 2) rfl (nI_1 _) (by decide) rfl (fun ls hl => ?_)
        refine lv_goto (tgt := 47) hx hb d_MD_breaks_175 (by decide) ?_
        have hT3 : TM M3 (t_list its F a (a + (j + 1) + 1)) := by rw [show a + (j + 1) + 1 = a + j + 1 + 1 from rfl, hts9]; exact hT3
        exact ih (j + 1) M3 H locs ls (by omega) (br_all hb1 (by rw [hno])) (fun h9 => absurd (h9.symm.trans hqn) (by decide)) (by rw [hmk3.1, hi1]; exact br_q (by rw [qm_no hqn, sP_succ, hno, hq0])) (hmk3.2.trans hr1) hT3 hP hD hS (lv_sub hl [2, 0] rfl)
      · have hpd : pend its (a + j) = true := by rw [pend, hi0, hi9]
        have hq0 : qm its F a j = (sL its F a j).2 := qm_yes hpd
        refine lv_aload_n hx hb d_MD_breaks_75 rfl (lv_at hl 0 rfl) ?_
        refine lv_iload_n hx hb d_MD_breaks_76 rfl (lv_at hl 1 rfl) ?_
        refine vp_callSi (va_Run.run (va_runV (As := [.int (nI (a + j + 1))]) (rest := []) ⟨hx, hb, hml, hown, hts⟩ (c_MD_penaltyAt l G A hA9 M1 _ its (a + j) hit1 hk1) (cwV 1 hts (tb_V tw_805 tw_807 tp_19 tw_8 tw_808) rfl rfl rfl (by decide +kernel) ⟨(Nat.le_of_ble_eq_true rfl), (Nat.le_of_ble_eq_true rfl)⟩) (pz_preV (zz_ok _ _ _) hK hP hD hS hA hz (ci := 10) rfl rfl (lm_in (by decide)) h_3) rfl rfl hl.1 rfl (lv_room (Nat.le_of_ble_eq_true rfl)) d_MD_breaks_77 ⟨(Nat.le_of_ble_eq_true rfl), (Nat.le_of_ble_eq_true rfl)⟩)) (fun r16 hw => ?_)
        have hw : r16 = (m_at its (a + j + 1)) := hw
        subst r16
        have hat : m_at its (a + j + 1) = 10000 := by rw [m_at, hi9, Nat.add_sub_cancel, hi0]
        rw [hat]
        refine lv_istore_n (lv' := [(2, .int 10000), (0, .ref (A 0)), (1, .int (nI (a + j + 1)))]) hx hb d_MD_breaks_80 rfl hl (by decide) rfl (fun ls hl => ?_)
        refine lv_iload_n hx hb d_MD_breaks_81 rfl (lv_at hl 0 rfl) ?_
        refine lv_sipush (v := 10000) hx hb d_MD_breaks_82 (by decide) ?_
        refine lv_icmp_ge (tgt := 163) hx hb d_MD_breaks_85 (by decide) (fun _ => ?_) (fun c0 => absurd c0 (by decide))
        have p5 : M1.pg = nI np := (congrFun hi1 5).trans hM5
        refine lv_aload_n hx hb d_MD_breaks_163 rfl (lv_at hl 1 rfl) ?_
        refine lv_aload_n hx hb d_MD_breaks_164 rfl (lv_at hl 1 rfl) ?_
        refine pz_get (ci := 10) (C := "PageMakerModel") (T := T_MD) (N := 26) hx hb htb in_MD hown hK hP (lm_in (by decide)) h_3 rfl 17 (by decide) (htb _ tw_699) (fun _ h9 => h9) rfl d_MD_breaks_165 ?_
        refine lv_topi (fun x17 ex17 => ?_)
        have ex17 : x17 = nI np := ex17.trans (p5)
        subst ex17
        refine lv_iload_n hx hb d_MD_breaks_168 rfl (lv_at hl 2 rfl) ?_
        refine pz_cv (va_runV (As := [.int (nI np), .int (nI (a + j + 1))]) (rest := []) ⟨hx, hb, hml, hown, hts⟩ (c_MD_add l G A hA9 M1 _ _ np (a + j + 1) F.2.2 (.inr (.inl (ia, ib, io, id9))) (by omega) (by omega) (by rw [show M1.ds = M.ds from congrFun hr1 8]; exact hpg.2.2.1) (by rw [hr1]; exact him0) hok hT) (cwV 2 hts (tb_V tw_801 tw_803 tp_18 tw_8 tw_804) rfl rfl rfl (by decide +kernel) ⟨(Nat.le_of_ble_eq_true rfl), (Nat.le_of_ble_eq_true rfl)⟩) (pz_preV (zz_ok _ _ _) hK hP hD hS hA hz (ci := 10) rfl rfl (lm_in (by decide)) h_3) rfl rfl hl.1 rfl (lv_room (Nat.le_of_ble_eq_true rfl)) d_MD_breaks_169 ⟨(Nat.le_of_ble_eq_true rfl), (Nat.le_of_ble_eq_true rfl)⟩) hP hD hS hA (fun L8 f8 H locs hw hP hD hS => ?_)
        obtain ⟨M3, hu, hmk3, hT3⟩ := hw
        have eL8 : L8 = LM A := (Prod.mk.inj hu).1
        have ef8 : f8 = mF G A M3 := (Prod.mk.inj hu).2
        subst eL8
        subst ef8
        refine lv_iinc (v := nI (a + (j + 1) + 1)) (lv' := [(1, .int (nI (a + (j + 1) + 1))), (2, .int 10000), (0, .ref (A 0))]) hx hb d_MD_breaks_172 hl (k := 2) rfl (nI_1 _) (by decide) rfl (fun ls hl => ?_)
        refine lv_goto (tgt := 47) hx hb d_MD_breaks_175 (by decide) ?_
        have hT3 : TM M3 (t_list its F a (a + (j + 1) + 1)) := by rw [show a + (j + 1) + 1 = a + j + 1 + 1 from rfl, hts9]; exact hT3
        exact ih (j + 1) M3 H locs ls (by omega) (br_all hb1 (hb2 hpd)) (fun h9 => absurd (h9.symm.trans hqn) (by decide)) (by rw [hmk3.1, hi1]; exact br_q (by rw [qm_no hqn, sP_succ, hq0])) (hmk3.2.trans hr1) hT3 hP hD hS (lv_sub hl [2, 0] rfl)
      · have hq0 : qm its F a j = sP its F a j := qm_no (pend_not hi0 (by intro w h9; cases h9))
        have hno : sL its F a j = (false, sP its F a j) := hsL.trans (if_neg hnm)
        refine lv_aload_n hx hb d_MD_breaks_75 rfl (lv_at hl 0 rfl) ?_
        refine lv_iload_n hx hb d_MD_breaks_76 rfl (lv_at hl 1 rfl) ?_
        refine vp_callSi (va_Run.run (va_runV (As := [.int (nI (a + j + 1))]) (rest := []) ⟨hx, hb, hml, hown, hts⟩ (c_MD_penaltyAt l G A hA9 M1 _ its (a + j) hit1 hk1) (cwV 1 hts (tb_V tw_805 tw_807 tp_19 tw_8 tw_808) rfl rfl rfl (by decide +kernel) ⟨(Nat.le_of_ble_eq_true rfl), (Nat.le_of_ble_eq_true rfl)⟩) (pz_preV (zz_ok _ _ _) hK hP hD hS hA hz (ci := 10) rfl rfl (lm_in (by decide)) h_3) rfl rfl hl.1 rfl (lv_room (Nat.le_of_ble_eq_true rfl)) d_MD_breaks_77 ⟨(Nat.le_of_ble_eq_true rfl), (Nat.le_of_ble_eq_true rfl)⟩)) (fun r18 hw => ?_)
        have hw : r18 = (m_at its (a + j + 1)) := hw
        subst r18
        have hat : m_at its (a + j + 1) = 10000 := by rw [m_at, hi9, Nat.add_sub_cancel, hi0]
        rw [hat]
        refine lv_istore_n (lv' := [(2, .int 10000), (0, .ref (A 0)), (1, .int (nI (a + j + 1)))]) hx hb d_MD_breaks_80 rfl hl (by decide) rfl (fun ls hl => ?_)
        refine lv_iload_n hx hb d_MD_breaks_81 rfl (lv_at hl 0 rfl) ?_
        refine lv_sipush (v := 10000) hx hb d_MD_breaks_82 (by decide) ?_
        refine lv_icmp_ge (tgt := 163) hx hb d_MD_breaks_85 (by decide) (fun _ => ?_) (fun c0 => absurd c0 (by decide))
        have p5 : M1.pg = nI np := (congrFun hi1 5).trans hM5
        refine lv_aload_n hx hb d_MD_breaks_163 rfl (lv_at hl 1 rfl) ?_
        refine lv_aload_n hx hb d_MD_breaks_164 rfl (lv_at hl 1 rfl) ?_
        refine pz_get (ci := 10) (C := "PageMakerModel") (T := T_MD) (N := 26) hx hb htb in_MD hown hK hP (lm_in (by decide)) h_3 rfl 17 (by decide) (htb _ tw_699) (fun _ h9 => h9) rfl d_MD_breaks_165 ?_
        refine lv_topi (fun x19 ex19 => ?_)
        have ex19 : x19 = nI np := ex19.trans (p5)
        subst ex19
        refine lv_iload_n hx hb d_MD_breaks_168 rfl (lv_at hl 2 rfl) ?_
        refine pz_cv (va_runV (As := [.int (nI np), .int (nI (a + j + 1))]) (rest := []) ⟨hx, hb, hml, hown, hts⟩ (c_MD_add l G A hA9 M1 _ _ np (a + j + 1) F.2.2 (.inr (.inl (ia, ib, io, id9))) (by omega) (by omega) (by rw [show M1.ds = M.ds from congrFun hr1 8]; exact hpg.2.2.1) (by rw [hr1]; exact him0) hok hT) (cwV 2 hts (tb_V tw_801 tw_803 tp_18 tw_8 tw_804) rfl rfl rfl (by decide +kernel) ⟨(Nat.le_of_ble_eq_true rfl), (Nat.le_of_ble_eq_true rfl)⟩) (pz_preV (zz_ok _ _ _) hK hP hD hS hA hz (ci := 10) rfl rfl (lm_in (by decide)) h_3) rfl rfl hl.1 rfl (lv_room (Nat.le_of_ble_eq_true rfl)) d_MD_breaks_169 ⟨(Nat.le_of_ble_eq_true rfl), (Nat.le_of_ble_eq_true rfl)⟩) hP hD hS hA (fun L8 f8 H locs hw hP hD hS => ?_)
        obtain ⟨M3, hu, hmk3, hT3⟩ := hw
        have eL8 : L8 = LM A := (Prod.mk.inj hu).1
        have ef8 : f8 = mF G A M3 := (Prod.mk.inj hu).2
        subst eL8
        subst ef8
        refine lv_iinc (v := nI (a + (j + 1) + 1)) (lv' := [(1, .int (nI (a + (j + 1) + 1))), (2, .int 10000), (0, .ref (A 0))]) hx hb d_MD_breaks_172 hl (k := 2) rfl (nI_1 _) (by decide) rfl (fun ls hl => ?_)
        refine lv_goto (tgt := 47) hx hb d_MD_breaks_175 (by decide) ?_
        have hT3 : TM M3 (t_list its F a (a + (j + 1) + 1)) := by rw [show a + (j + 1) + 1 = a + j + 1 + 1 from rfl, hts9]; exact hT3
        exact ih (j + 1) M3 H locs ls (by omega) (br_all hb1 (by rw [hno])) (fun h9 => absurd (h9.symm.trans hqn) (by decide)) (by rw [hmk3.1, hi1]; exact br_q (by rw [qm_no hqn, sP_succ, hno, hq0])) (hmk3.2.trans hr1) hT3 hP hD hS (lv_sub hl [2, 0] rfl)
    · have him : itM M1.r (a + j + 1) (.inr (.inr (.inl ia))) := him
      have hsL : sL its F a j = c_look (sP its F a j) (t_list its F a (a + j + 1)) F (a + j + 1) (.inr (.inr (.inl ia))) (some it1) := hsL
      refine lv_aload_n hx hb d_MD_breaks_55 rfl (lv_at hl 0 rfl) ?_
      refine pz_get (ci := 10) (C := "PageMakerModel") (T := T_MD) (N := 26) hx hb htb in_MD hown hK hP (lm_in (by decide)) h_3 rfl 1 (by decide) (htb _ tw_683) (fun _ h9 => h9) rfl d_MD_breaks_56 ?_
      refine lv_iload_n hx hb d_MD_breaks_59 rfl (lv_at hl 1 rfl) ?_
      have h_20 : mF G A M1 (A 1) = .inl (cI G, 2000, .inl M1.kd) := mf_at hA9 M1 1 (by decide)
      refine pz_iald (j := (a + j + 1)) hx hb hK hP 0 (lm_in (by decide)) h_20 rfl (by omega) (by decide) d_MD_breaks_60 ?_
      refine lv_topi (fun x21 ex21 => ?_)
      have ex21 : x21 = 2 := ex21.trans (him.1)
      subst ex21
      refine lv_iconst (v := 2) hx hb d_MD_breaks_61 (by decide) ?_
      refine lv_icmp_ne (tgt := 75) hx hb d_MD_breaks_62 (by decide) (fun c0 => absurd c0 (by decide)) (fun _ => ?_)
      refine lv_iload_n hx hb d_MD_breaks_65 rfl (lv_at hl 1 rfl) ?_
      refine lv_iconst (v := 1) hx hb d_MD_breaks_66 (by decide) ?_
      refine lv_iadd hx hb d_MD_breaks_67 ?_
      refine lv_topi (fun x22 ex22 => ?_)
      have ex22 : x22 = nI (a + j + 1 + 1) := ex22.trans (nI_1 _)
      subst ex22
      refine lv_aload_n hx hb d_MD_breaks_68 rfl (lv_at hl 0 rfl) ?_
      refine pz_get (ci := 10) (C := "PageMakerModel") (T := T_MD) (N := 26) hx hb htb in_MD hown hK hP (lm_in (by decide)) h_3 rfl 6 (by decide) (htb _ tw_688) (fun _ h9 => h9) rfl d_MD_breaks_69 ?_
      refine lv_topi (fun x23 ex23 => ?_)
      have ex23 : x23 = nI its.length := ex23.trans (q1)
      subst ex23
      have hq0 : qm its F a j = sP its F a j := qm_not hi9 (by intro a9 b9 c9 d9 h9; cases h9)
      have hno : sL its F a j = (false, sP its F a j) := hsL.trans (if_neg hnm)
      refine lv_icmp_ge (tgt := 178) hx hb d_MD_breaks_72 (by decide) (fun c_24 => ?_) (fun c_24 => ?_)
      · have hj : its.length - a - 1 = j + 1 := by have h9 := (nI_leI (by omega) (by omega)).mp c_24; omega
        refine lv_iconst (v := 0) hx hb d_MD_breaks_178 (by decide) ?_
        exact pz_iret hx hb hr rfl hlocks hK hP hD hS (Nat.le_refl _) (Nat.le_refl _) ⟨M1, rfl, Or.inr ⟨rfl, fun i hi => br_all hb1 (by rw [hno]) i (by omega), by rw [hj, sP_succ, hno]; rw [hq0] at hi1; exact hi1, hr1⟩⟩ d_MD_breaks_179
      · have hk2 : a + j + 1 + 1 < its.length := Nat.lt_of_not_le (fun h9 => c_24 (nI_le h9 (by omega)))
        obtain ⟨it2, hi2n⟩ : ∃ it, its[a + j + 1 + 1]? = some it := ⟨_, List.getElem?_eq_getElem hk2⟩
        have hsL2 := sL_eq (F := F) (a := a) (j := j + 1) hi2n
        rw [show its[a + (j + 1)]? = some (.inr (.inr (.inl ia))) from hi9] at hsL2
        rcases it2 with ⟨ja, jb⟩ | ⟨ja, jb, jo, jd9⟩ | ja | ja
        · have hqn : pend its (a + (j + 1)) = false := pend_n2 hi2n (by intro a9 b9 c9 d9 h9; cases h9)
          refine lv_aload_n hx hb d_MD_breaks_75 rfl (lv_at hl 0 rfl) ?_
          refine lv_iload_n hx hb d_MD_breaks_76 rfl (lv_at hl 1 rfl) ?_
          refine vp_callSi (va_Run.run (va_runV (As := [.int (nI (a + j + 1))]) (rest := []) ⟨hx, hb, hml, hown, hts⟩ (c_MD_penaltyAt l G A hA9 M1 _ its (a + j) hit1 hk1) (cwV 1 hts (tb_V tw_805 tw_807 tp_19 tw_8 tw_808) rfl rfl rfl (by decide +kernel) ⟨(Nat.le_of_ble_eq_true rfl), (Nat.le_of_ble_eq_true rfl)⟩) (pz_preV (zz_ok _ _ _) hK hP hD hS hA hz (ci := 10) rfl rfl (lm_in (by decide)) h_3) rfl rfl hl.1 rfl (lv_room (Nat.le_of_ble_eq_true rfl)) d_MD_breaks_77 ⟨(Nat.le_of_ble_eq_true rfl), (Nat.le_of_ble_eq_true rfl)⟩)) (fun r25 hw => ?_)
          have hw : r25 = (m_at its (a + j + 1)) := hw
          subst r25
          have hat : m_at its (a + j + 1) = 10000 := by rw [m_at, hi9, hi2n]
          rw [hat]
          refine lv_istore_n (lv' := [(2, .int 10000), (0, .ref (A 0)), (1, .int (nI (a + j + 1)))]) hx hb d_MD_breaks_80 rfl hl (by decide) rfl (fun ls hl => ?_)
          refine lv_iload_n hx hb d_MD_breaks_81 rfl (lv_at hl 0 rfl) ?_
          refine lv_sipush (v := 10000) hx hb d_MD_breaks_82 (by decide) ?_
          refine lv_icmp_ge (tgt := 163) hx hb d_MD_breaks_85 (by decide) (fun _ => ?_) (fun c0 => absurd c0 (by decide))
          have p5 : M1.pg = nI np := (congrFun hi1 5).trans hM5
          refine lv_aload_n hx hb d_MD_breaks_163 rfl (lv_at hl 1 rfl) ?_
          refine lv_aload_n hx hb d_MD_breaks_164 rfl (lv_at hl 1 rfl) ?_
          refine pz_get (ci := 10) (C := "PageMakerModel") (T := T_MD) (N := 26) hx hb htb in_MD hown hK hP (lm_in (by decide)) h_3 rfl 17 (by decide) (htb _ tw_699) (fun _ h9 => h9) rfl d_MD_breaks_165 ?_
          refine lv_topi (fun x26 ex26 => ?_)
          have ex26 : x26 = nI np := ex26.trans (p5)
          subst ex26
          refine lv_iload_n hx hb d_MD_breaks_168 rfl (lv_at hl 2 rfl) ?_
          refine pz_cv (va_runV (As := [.int (nI np), .int (nI (a + j + 1))]) (rest := []) ⟨hx, hb, hml, hown, hts⟩ (c_MD_add l G A hA9 M1 _ _ np (a + j + 1) F.2.2 (.inr (.inr (.inl ia))) (by omega) (by omega) (by rw [show M1.ds = M.ds from congrFun hr1 8]; exact hpg.2.2.1) (by rw [hr1]; exact him0) hok hT) (cwV 2 hts (tb_V tw_801 tw_803 tp_18 tw_8 tw_804) rfl rfl rfl (by decide +kernel) ⟨(Nat.le_of_ble_eq_true rfl), (Nat.le_of_ble_eq_true rfl)⟩) (pz_preV (zz_ok _ _ _) hK hP hD hS hA hz (ci := 10) rfl rfl (lm_in (by decide)) h_3) rfl rfl hl.1 rfl (lv_room (Nat.le_of_ble_eq_true rfl)) d_MD_breaks_169 ⟨(Nat.le_of_ble_eq_true rfl), (Nat.le_of_ble_eq_true rfl)⟩) hP hD hS hA (fun L8 f8 H locs hw hP hD hS => ?_)
          obtain ⟨M3, hu, hmk3, hT3⟩ := hw
          have eL8 : L8 = LM A := (Prod.mk.inj hu).1
          have ef8 : f8 = mF G A M3 := (Prod.mk.inj hu).2
          subst eL8
          subst ef8
          refine lv_iinc (v := nI (a + (j + 1) + 1)) (lv' := [(1, .int (nI (a + (j + 1) + 1))), (2, .int 10000), (0, .ref (A 0))]) hx hb d_MD_breaks_172 hl (k := 2) rfl (nI_1 _) (by decide) rfl (fun ls hl => ?_)
          refine lv_goto (tgt := 47) hx hb d_MD_breaks_175 (by decide) ?_
          have hT3 : TM M3 (t_list its F a (a + (j + 1) + 1)) := by rw [show a + (j + 1) + 1 = a + j + 1 + 1 from rfl, hts9]; exact hT3
          exact ih (j + 1) M3 H locs ls (by omega) (br_all hb1 (by rw [hno])) (fun h9 => absurd (h9.symm.trans hqn) (by decide)) (by rw [hmk3.1, hi1]; exact br_q (by rw [qm_no hqn, sP_succ, hno, hq0])) (hmk3.2.trans hr1) hT3 hP hD hS (lv_sub hl [2, 0] rfl)
        · have hpd : pend its (a + (j + 1)) = true := by rw [pend, show its[a + (j + 1)]? = some (.inr (.inr (.inl ia))) from hi9, show its[a + (j + 1) + 1]? = _ from hi2n]
          have hnm2 : ¬ (sP its F a (j + 1)).1 = (-1) := by rw [sP_1]; exact nI_nm (by omega)
          have hP2 : (sP its F a (j + 1)) = (nI a, (t_list its F a (a + j + 1)).1, (sP its F a j).2.2) := by rw [sP_succ, hno]
          have hlk : (sL its F a (j + 1)).1 = (o_at (sP its F a j) (t_list its F a (a + j + 1)) F (nI (a + j + 1)) (t_list its F a (a + j + 1)).1 0).1 ∧ (sL its F a (j + 1)).2.2.2 = (o_at (sP its F a j) (t_list its F a (a + j + 1)) F (nI (a + j + 1)) (t_list its F a (a + j + 1)).1 0).2.2.2 := br_kern (hsL2.trans (if_neg hnm2)) hP2 hts9
          refine lv_aload_n hx hb d_MD_breaks_75 rfl (lv_at hl 0 rfl) ?_
          refine lv_iload_n hx hb d_MD_breaks_76 rfl (lv_at hl 1 rfl) ?_
          refine vp_callSi (va_Run.run (va_runV (As := [.int (nI (a + j + 1))]) (rest := []) ⟨hx, hb, hml, hown, hts⟩ (c_MD_penaltyAt l G A hA9 M1 _ its (a + j) hit1 hk1) (cwV 1 hts (tb_V tw_805 tw_807 tp_19 tw_8 tw_808) rfl rfl rfl (by decide +kernel) ⟨(Nat.le_of_ble_eq_true rfl), (Nat.le_of_ble_eq_true rfl)⟩) (pz_preV (zz_ok _ _ _) hK hP hD hS hA hz (ci := 10) rfl rfl (lm_in (by decide)) h_3) rfl rfl hl.1 rfl (lv_room (Nat.le_of_ble_eq_true rfl)) d_MD_breaks_77 ⟨(Nat.le_of_ble_eq_true rfl), (Nat.le_of_ble_eq_true rfl)⟩)) (fun r27 hw => ?_)
          have hw : r27 = (m_at its (a + j + 1)) := hw
          subst r27
          have hat : m_at its (a + j + 1) = 0 := by rw [m_at, hi9, hi2n]
          rw [hat]
          refine lv_istore_n (lv' := [(2, .int 0), (0, .ref (A 0)), (1, .int (nI (a + j + 1)))]) hx hb d_MD_breaks_80 rfl hl (by decide) rfl (fun ls hl => ?_)
          refine lv_iload_n hx hb d_MD_breaks_81 rfl (lv_at hl 0 rfl) ?_
          refine lv_sipush (v := 10000) hx hb d_MD_breaks_82 (by decide) ?_
          refine lv_icmp_ge (tgt := 163) hx hb d_MD_breaks_85 (by decide) (fun c0 => absurd c0 (by decide)) (fun _ => ?_)
          refine lk_breaks l G A hA9 M sz its F a np hx hb hr hml hts hown hlocks hK hA hz hit hv hpg hnp hM5 hM6 hM7 b0 b1 hbx (a + j + 1) 0 (sP its F a j) _ M1 H locs ls _ (by omega) (by rw [← hq0]; exact hi1) hr1 hT hnn hP hD hS .null (lv_sub hl [1, 2, 0] rfl) ?_ ?_
          · intro hend M2 g1 g2
            exact ⟨M2, rfl, Or.inl ⟨rfl, j + 1, hk2, br_all hb1 (by rw [hno]), hlk.1.trans hend, by rw [hlk.2]; exact g1, by rw [hlk.2]; exact g2⟩⟩
          · intro hend M2 H locs ls hi2 hr2 hT2 hP hD hS hl
            have p5 : M2.pg = nI np := (congrFun hi2 5).trans hM5
            refine lv_aload_n hx hb d_MD_breaks_163 rfl (lv_at hl 0 rfl) ?_
            refine lv_aload_n hx hb d_MD_breaks_164 rfl (lv_at hl 0 rfl) ?_
            have h_28 : mF G A M2 (A 0) = .inr (10, [.int M2.th, .ref (A 1), .ref (A 2), .ref (A 3), .ref (A 4), .ref (A 5), .int M2.ct, .int M2.ht, .int M2.tp, .int M2.gr, .ref (A 6), .ref (A 7), .ref (A 8), .ref (A 9), .ref (A 10), .ref (A 11), .ref (A 12), .int M2.pg, .int M2.bg, .int M2.io, .int M2.be, .int M2.le, .long M2.ln, .long M2.dp, .ref (A 13), .long M2.sh]) := mf_at hA9 M2 0 (by decide)
            refine pz_get (ci := 10) (C := "PageMakerModel") (T := T_MD) (N := 26) hx hb htb in_MD hown hK hP (lm_in (by decide)) h_28 rfl 17 (by decide) (htb _ tw_699) (fun _ h9 => h9) rfl d_MD_breaks_165 ?_
            refine lv_topi (fun x29 ex29 => ?_)
            have ex29 : x29 = nI np := ex29.trans (p5)
            subst ex29
            refine lv_iload_n hx hb d_MD_breaks_168 rfl (lv_at hl 1 rfl) ?_
            refine pz_cv (va_runV (As := [.int (nI np), .int (nI (a + j + 1))]) (rest := []) ⟨hx, hb, hml, hown, hts⟩ (c_MD_add l G A hA9 M2 _ _ np (a + j + 1) F.2.2 (.inr (.inr (.inl ia))) (by omega) (by omega) (by rw [show M2.ds = M.ds from congrFun hr2 8]; exact hpg.2.2.1) (by rw [hr2]; exact him0) hok hT2) (cwV 2 hts (tb_V tw_801 tw_803 tp_18 tw_8 tw_804) rfl rfl rfl (by decide +kernel) ⟨(Nat.le_of_ble_eq_true rfl), (Nat.le_of_ble_eq_true rfl)⟩) (pz_preV (zz_ok _ _ _) hK hP hD hS hA hz (ci := 10) rfl rfl (lm_in (by decide)) h_28) rfl rfl hl.1 rfl (lv_room (Nat.le_of_ble_eq_true rfl)) d_MD_breaks_169 ⟨(Nat.le_of_ble_eq_true rfl), (Nat.le_of_ble_eq_true rfl)⟩) hP hD hS hA (fun L8 f8 H locs hw hP hD hS => ?_)
            obtain ⟨M3, hu, hmk3, hT3⟩ := hw
            have eL8 : L8 = LM A := (Prod.mk.inj hu).1
            have ef8 : f8 = mF G A M3 := (Prod.mk.inj hu).2
            subst eL8
            subst ef8
            refine lv_iinc (v := nI (a + (j + 1) + 1)) (lv' := [(1, .int (nI (a + (j + 1) + 1))), (0, .ref (A 0))]) hx hb d_MD_breaks_172 hl (k := 1) rfl (nI_1 _) (by decide) rfl (fun ls hl => ?_)
            refine lv_goto (tgt := 47) hx hb d_MD_breaks_175 (by decide) ?_
            have hT3 : TM M3 (t_list its F a (a + (j + 1) + 1)) := by rw [show a + (j + 1) + 1 = a + j + 1 + 1 from rfl, hts9]; exact hT3
            exact ih (j + 1) M3 H locs ls (by omega) (br_all hb1 (by rw [hno])) (fun _ => hlk.1.trans hend) (by rw [hmk3.1, hi2]; exact br_q (by rw [qm_yes hpd, hlk.2])) (hmk3.2.trans hr2) hT3 hP hD hS (lv_sub hl [1, 0] rfl)
        · have hqn : pend its (a + (j + 1)) = false := pend_n2 hi2n (by intro a9 b9 c9 d9 h9; cases h9)
          refine lv_aload_n hx hb d_MD_breaks_75 rfl (lv_at hl 0 rfl) ?_
          refine lv_iload_n hx hb d_MD_breaks_76 rfl (lv_at hl 1 rfl) ?_
          refine vp_callSi (va_Run.run (va_runV (As := [.int (nI (a + j + 1))]) (rest := []) ⟨hx, hb, hml, hown, hts⟩ (c_MD_penaltyAt l G A hA9 M1 _ its (a + j) hit1 hk1) (cwV 1 hts (tb_V tw_805 tw_807 tp_19 tw_8 tw_808) rfl rfl rfl (by decide +kernel) ⟨(Nat.le_of_ble_eq_true rfl), (Nat.le_of_ble_eq_true rfl)⟩) (pz_preV (zz_ok _ _ _) hK hP hD hS hA hz (ci := 10) rfl rfl (lm_in (by decide)) h_3) rfl rfl hl.1 rfl (lv_room (Nat.le_of_ble_eq_true rfl)) d_MD_breaks_77 ⟨(Nat.le_of_ble_eq_true rfl), (Nat.le_of_ble_eq_true rfl)⟩)) (fun r30 hw => ?_)
          have hw : r30 = (m_at its (a + j + 1)) := hw
          subst r30
          have hat : m_at its (a + j + 1) = 10000 := by rw [m_at, hi9, hi2n]
          rw [hat]
          refine lv_istore_n (lv' := [(2, .int 10000), (0, .ref (A 0)), (1, .int (nI (a + j + 1)))]) hx hb d_MD_breaks_80 rfl hl (by decide) rfl (fun ls hl => ?_)
          refine lv_iload_n hx hb d_MD_breaks_81 rfl (lv_at hl 0 rfl) ?_
          refine lv_sipush (v := 10000) hx hb d_MD_breaks_82 (by decide) ?_
          refine lv_icmp_ge (tgt := 163) hx hb d_MD_breaks_85 (by decide) (fun _ => ?_) (fun c0 => absurd c0 (by decide))
          have p5 : M1.pg = nI np := (congrFun hi1 5).trans hM5
          refine lv_aload_n hx hb d_MD_breaks_163 rfl (lv_at hl 1 rfl) ?_
          refine lv_aload_n hx hb d_MD_breaks_164 rfl (lv_at hl 1 rfl) ?_
          refine pz_get (ci := 10) (C := "PageMakerModel") (T := T_MD) (N := 26) hx hb htb in_MD hown hK hP (lm_in (by decide)) h_3 rfl 17 (by decide) (htb _ tw_699) (fun _ h9 => h9) rfl d_MD_breaks_165 ?_
          refine lv_topi (fun x31 ex31 => ?_)
          have ex31 : x31 = nI np := ex31.trans (p5)
          subst ex31
          refine lv_iload_n hx hb d_MD_breaks_168 rfl (lv_at hl 2 rfl) ?_
          refine pz_cv (va_runV (As := [.int (nI np), .int (nI (a + j + 1))]) (rest := []) ⟨hx, hb, hml, hown, hts⟩ (c_MD_add l G A hA9 M1 _ _ np (a + j + 1) F.2.2 (.inr (.inr (.inl ia))) (by omega) (by omega) (by rw [show M1.ds = M.ds from congrFun hr1 8]; exact hpg.2.2.1) (by rw [hr1]; exact him0) hok hT) (cwV 2 hts (tb_V tw_801 tw_803 tp_18 tw_8 tw_804) rfl rfl rfl (by decide +kernel) ⟨(Nat.le_of_ble_eq_true rfl), (Nat.le_of_ble_eq_true rfl)⟩) (pz_preV (zz_ok _ _ _) hK hP hD hS hA hz (ci := 10) rfl rfl (lm_in (by decide)) h_3) rfl rfl hl.1 rfl (lv_room (Nat.le_of_ble_eq_true rfl)) d_MD_breaks_169 ⟨(Nat.le_of_ble_eq_true rfl), (Nat.le_of_ble_eq_true rfl)⟩) hP hD hS hA (fun L8 f8 H locs hw hP hD hS => ?_)
          obtain ⟨M3, hu, hmk3, hT3⟩ := hw
          have eL8 : L8 = LM A := (Prod.mk.inj hu).1
          have ef8 : f8 = mF G A M3 := (Prod.mk.inj hu).2
          subst eL8
          subst ef8
          refine lv_iinc (v := nI (a + (j + 1) + 1)) (lv' := [(1, .int (nI (a + (j + 1) + 1))), (2, .int 10000), (0, .ref (A 0))]) hx hb d_MD_breaks_172 hl (k := 2) rfl (nI_1 _) (by decide) rfl (fun ls hl => ?_)
          refine lv_goto (tgt := 47) hx hb d_MD_breaks_175 (by decide) ?_
          have hT3 : TM M3 (t_list its F a (a + (j + 1) + 1)) := by rw [show a + (j + 1) + 1 = a + j + 1 + 1 from rfl, hts9]; exact hT3
          exact ih (j + 1) M3 H locs ls (by omega) (br_all hb1 (by rw [hno])) (fun h9 => absurd (h9.symm.trans hqn) (by decide)) (by rw [hmk3.1, hi1]; exact br_q (by rw [qm_no hqn, sP_succ, hno, hq0])) (hmk3.2.trans hr1) hT3 hP hD hS (lv_sub hl [2, 0] rfl)
        · have hqn : pend its (a + (j + 1)) = false := pend_n2 hi2n (by intro a9 b9 c9 d9 h9; cases h9)
          refine lv_aload_n hx hb d_MD_breaks_75 rfl (lv_at hl 0 rfl) ?_
          refine lv_iload_n hx hb d_MD_breaks_76 rfl (lv_at hl 1 rfl) ?_
          refine vp_callSi (va_Run.run (va_runV (As := [.int (nI (a + j + 1))]) (rest := []) ⟨hx, hb, hml, hown, hts⟩ (c_MD_penaltyAt l G A hA9 M1 _ its (a + j) hit1 hk1) (cwV 1 hts (tb_V tw_805 tw_807 tp_19 tw_8 tw_808) rfl rfl rfl (by decide +kernel) ⟨(Nat.le_of_ble_eq_true rfl), (Nat.le_of_ble_eq_true rfl)⟩) (pz_preV (zz_ok _ _ _) hK hP hD hS hA hz (ci := 10) rfl rfl (lm_in (by decide)) h_3) rfl rfl hl.1 rfl (lv_room (Nat.le_of_ble_eq_true rfl)) d_MD_breaks_77 ⟨(Nat.le_of_ble_eq_true rfl), (Nat.le_of_ble_eq_true rfl)⟩)) (fun r32 hw => ?_)
          have hw : r32 = (m_at its (a + j + 1)) := hw
          subst r32
          have hat : m_at its (a + j + 1) = 10000 := by rw [m_at, hi9, hi2n]
          rw [hat]
          refine lv_istore_n (lv' := [(2, .int 10000), (0, .ref (A 0)), (1, .int (nI (a + j + 1)))]) hx hb d_MD_breaks_80 rfl hl (by decide) rfl (fun ls hl => ?_)
          refine lv_iload_n hx hb d_MD_breaks_81 rfl (lv_at hl 0 rfl) ?_
          refine lv_sipush (v := 10000) hx hb d_MD_breaks_82 (by decide) ?_
          refine lv_icmp_ge (tgt := 163) hx hb d_MD_breaks_85 (by decide) (fun _ => ?_) (fun c0 => absurd c0 (by decide))
          have p5 : M1.pg = nI np := (congrFun hi1 5).trans hM5
          refine lv_aload_n hx hb d_MD_breaks_163 rfl (lv_at hl 1 rfl) ?_
          refine lv_aload_n hx hb d_MD_breaks_164 rfl (lv_at hl 1 rfl) ?_
          refine pz_get (ci := 10) (C := "PageMakerModel") (T := T_MD) (N := 26) hx hb htb in_MD hown hK hP (lm_in (by decide)) h_3 rfl 17 (by decide) (htb _ tw_699) (fun _ h9 => h9) rfl d_MD_breaks_165 ?_
          refine lv_topi (fun x33 ex33 => ?_)
          have ex33 : x33 = nI np := ex33.trans (p5)
          subst ex33
          refine lv_iload_n hx hb d_MD_breaks_168 rfl (lv_at hl 2 rfl) ?_
          refine pz_cv (va_runV (As := [.int (nI np), .int (nI (a + j + 1))]) (rest := []) ⟨hx, hb, hml, hown, hts⟩ (c_MD_add l G A hA9 M1 _ _ np (a + j + 1) F.2.2 (.inr (.inr (.inl ia))) (by omega) (by omega) (by rw [show M1.ds = M.ds from congrFun hr1 8]; exact hpg.2.2.1) (by rw [hr1]; exact him0) hok hT) (cwV 2 hts (tb_V tw_801 tw_803 tp_18 tw_8 tw_804) rfl rfl rfl (by decide +kernel) ⟨(Nat.le_of_ble_eq_true rfl), (Nat.le_of_ble_eq_true rfl)⟩) (pz_preV (zz_ok _ _ _) hK hP hD hS hA hz (ci := 10) rfl rfl (lm_in (by decide)) h_3) rfl rfl hl.1 rfl (lv_room (Nat.le_of_ble_eq_true rfl)) d_MD_breaks_169 ⟨(Nat.le_of_ble_eq_true rfl), (Nat.le_of_ble_eq_true rfl)⟩) hP hD hS hA (fun L8 f8 H locs hw hP hD hS => ?_)
          obtain ⟨M3, hu, hmk3, hT3⟩ := hw
          have eL8 : L8 = LM A := (Prod.mk.inj hu).1
          have ef8 : f8 = mF G A M3 := (Prod.mk.inj hu).2
          subst eL8
          subst ef8
          refine lv_iinc (v := nI (a + (j + 1) + 1)) (lv' := [(1, .int (nI (a + (j + 1) + 1))), (2, .int 10000), (0, .ref (A 0))]) hx hb d_MD_breaks_172 hl (k := 2) rfl (nI_1 _) (by decide) rfl (fun ls hl => ?_)
          refine lv_goto (tgt := 47) hx hb d_MD_breaks_175 (by decide) ?_
          have hT3 : TM M3 (t_list its F a (a + (j + 1) + 1)) := by rw [show a + (j + 1) + 1 = a + j + 1 + 1 from rfl, hts9]; exact hT3
          exact ih (j + 1) M3 H locs ls (by omega) (br_all hb1 (by rw [hno])) (fun h9 => absurd (h9.symm.trans hqn) (by decide)) (by rw [hmk3.1, hi1]; exact br_q (by rw [qm_no hqn, sP_succ, hno, hq0])) (hmk3.2.trans hr1) hT3 hP hD hS (lv_sub hl [2, 0] rfl)
    · have him : itM M1.r (a + j + 1) (.inr (.inr (.inr ia))) := him
      have hsL : sL its F a j = c_look (sP its F a j) (t_list its F a (a + j + 1)) F (a + j + 1) (.inr (.inr (.inr ia))) (some it1) := hsL
      have hqn : pend its (a + (j + 1)) = false := pend_not hi9 (by intro w h9; cases h9)
      refine lv_aload_n hx hb d_MD_breaks_55 rfl (lv_at hl 0 rfl) ?_
      refine pz_get (ci := 10) (C := "PageMakerModel") (T := T_MD) (N := 26) hx hb htb in_MD hown hK hP (lm_in (by decide)) h_3 rfl 1 (by decide) (htb _ tw_683) (fun _ h9 => h9) rfl d_MD_breaks_56 ?_
      refine lv_iload_n hx hb d_MD_breaks_59 rfl (lv_at hl 1 rfl) ?_
      have h_34 : mF G A M1 (A 1) = .inl (cI G, 2000, .inl M1.kd) := mf_at hA9 M1 1 (by decide)
      refine pz_iald (j := (a + j + 1)) hx hb hK hP 0 (lm_in (by decide)) h_34 rfl (by omega) (by decide) d_MD_breaks_60 ?_
      refine lv_topi (fun x35 ex35 => ?_)
      have ex35 : x35 = 3 := ex35.trans (him.1)
      subst ex35
      refine lv_iconst (v := 2) hx hb d_MD_breaks_61 (by decide) ?_
      refine lv_icmp_ne (tgt := 75) hx hb d_MD_breaks_62 (by decide) (fun _ => ?_) (fun c0 => absurd c0 (by decide))
      have hq0 : qm its F a j = sP its F a j := qm_not hi9 (by intro a9 b9 c9 d9 h9; cases h9)
      by_cases hpp : ia < 10000
      · have hlk : sL its F a j = o_at (sP its F a j) (t_list its F a (a + j + 1)) F (nI (a + j + 1)) (t_list its F a (a + j + 1)).1 ia := hsL.trans ((if_neg hnm).trans (if_pos hpp))
        refine lv_aload_n hx hb d_MD_breaks_75 rfl (lv_at hl 0 rfl) ?_
        refine lv_iload_n hx hb d_MD_breaks_76 rfl (lv_at hl 1 rfl) ?_
        refine vp_callSi (va_Run.run (va_runV (As := [.int (nI (a + j + 1))]) (rest := []) ⟨hx, hb, hml, hown, hts⟩ (c_MD_penaltyAt l G A hA9 M1 _ its (a + j) hit1 hk1) (cwV 1 hts (tb_V tw_805 tw_807 tp_19 tw_8 tw_808) rfl rfl rfl (by decide +kernel) ⟨(Nat.le_of_ble_eq_true rfl), (Nat.le_of_ble_eq_true rfl)⟩) (pz_preV (zz_ok _ _ _) hK hP hD hS hA hz (ci := 10) rfl rfl (lm_in (by decide)) h_3) rfl rfl hl.1 rfl (lv_room (Nat.le_of_ble_eq_true rfl)) d_MD_breaks_77 ⟨(Nat.le_of_ble_eq_true rfl), (Nat.le_of_ble_eq_true rfl)⟩)) (fun r36 hw => ?_)
        have hw : r36 = (m_at its (a + j + 1)) := hw
        subst r36
        have hat : m_at its (a + j + 1) = ia := by rw [m_at, hi9]
        rw [hat]
        refine lv_istore_n (lv' := [(2, .int ia), (0, .ref (A 0)), (1, .int (nI (a + j + 1)))]) hx hb d_MD_breaks_80 rfl hl (by decide) rfl (fun ls hl => ?_)
        refine lv_iload_n hx hb d_MD_breaks_81 rfl (lv_at hl 0 rfl) ?_
        refine lv_sipush (v := 10000) hx hb d_MD_breaks_82 (by decide) ?_
        refine lv_icmp_ge (tgt := 163) hx hb d_MD_breaks_85 (by decide) (fun c0 => absurd c0 (i32_nle hpp)) (fun _ => ?_)
        refine lk_breaks l G A hA9 M sz its F a np hx hb hr hml hts hown hlocks hK hA hz hit hv hpg hnp hM5 hM6 hM7 b0 b1 hbx (a + j + 1) ia (sP its F a j) _ M1 H locs ls _ (by omega) (by rw [← hq0]; exact hi1) hr1 hT hnn hP hD hS .null (lv_sub hl [1, 2, 0] rfl) ?_ ?_
        · intro hend M2 g1 g2
          exact ⟨M2, rfl, Or.inl ⟨rfl, j, hk1, hb1, by rw [hlk]; exact hend, by rw [hlk]; exact g1, by rw [hlk]; exact g2⟩⟩
        · intro hend M2 H locs ls hi2 hr2 hT2 hP hD hS hl
          have p5 : M2.pg = nI np := (congrFun hi2 5).trans hM5
          refine lv_aload_n hx hb d_MD_breaks_163 rfl (lv_at hl 0 rfl) ?_
          refine lv_aload_n hx hb d_MD_breaks_164 rfl (lv_at hl 0 rfl) ?_
          have h_37 : mF G A M2 (A 0) = .inr (10, [.int M2.th, .ref (A 1), .ref (A 2), .ref (A 3), .ref (A 4), .ref (A 5), .int M2.ct, .int M2.ht, .int M2.tp, .int M2.gr, .ref (A 6), .ref (A 7), .ref (A 8), .ref (A 9), .ref (A 10), .ref (A 11), .ref (A 12), .int M2.pg, .int M2.bg, .int M2.io, .int M2.be, .int M2.le, .long M2.ln, .long M2.dp, .ref (A 13), .long M2.sh]) := mf_at hA9 M2 0 (by decide)
          refine pz_get (ci := 10) (C := "PageMakerModel") (T := T_MD) (N := 26) hx hb htb in_MD hown hK hP (lm_in (by decide)) h_37 rfl 17 (by decide) (htb _ tw_699) (fun _ h9 => h9) rfl d_MD_breaks_165 ?_
          refine lv_topi (fun x38 ex38 => ?_)
          have ex38 : x38 = nI np := ex38.trans (p5)
          subst ex38
          refine lv_iload_n hx hb d_MD_breaks_168 rfl (lv_at hl 1 rfl) ?_
          refine pz_cv (va_runV (As := [.int (nI np), .int (nI (a + j + 1))]) (rest := []) ⟨hx, hb, hml, hown, hts⟩ (c_MD_add l G A hA9 M2 _ _ np (a + j + 1) F.2.2 (.inr (.inr (.inr ia))) (by omega) (by omega) (by rw [show M2.ds = M.ds from congrFun hr2 8]; exact hpg.2.2.1) (by rw [hr2]; exact him0) hok hT2) (cwV 2 hts (tb_V tw_801 tw_803 tp_18 tw_8 tw_804) rfl rfl rfl (by decide +kernel) ⟨(Nat.le_of_ble_eq_true rfl), (Nat.le_of_ble_eq_true rfl)⟩) (pz_preV (zz_ok _ _ _) hK hP hD hS hA hz (ci := 10) rfl rfl (lm_in (by decide)) h_37) rfl rfl hl.1 rfl (lv_room (Nat.le_of_ble_eq_true rfl)) d_MD_breaks_169 ⟨(Nat.le_of_ble_eq_true rfl), (Nat.le_of_ble_eq_true rfl)⟩) hP hD hS hA (fun L8 f8 H locs hw hP hD hS => ?_)
          obtain ⟨M3, hu, hmk3, hT3⟩ := hw
          have eL8 : L8 = LM A := (Prod.mk.inj hu).1
          have ef8 : f8 = mF G A M3 := (Prod.mk.inj hu).2
          subst eL8
          subst ef8
          refine lv_iinc (v := nI (a + (j + 1) + 1)) (lv' := [(1, .int (nI (a + (j + 1) + 1))), (0, .ref (A 0))]) hx hb d_MD_breaks_172 hl (k := 1) rfl (nI_1 _) (by decide) rfl (fun ls hl => ?_)
          refine lv_goto (tgt := 47) hx hb d_MD_breaks_175 (by decide) ?_
          have hT3 : TM M3 (t_list its F a (a + (j + 1) + 1)) := by rw [show a + (j + 1) + 1 = a + j + 1 + 1 from rfl, hts9]; exact hT3
          exact ih (j + 1) M3 H locs ls (by omega) (br_all hb1 (by rw [hlk]; exact hend)) (fun h9 => absurd (h9.symm.trans hqn) (by decide)) (by rw [hmk3.1, hi2]; exact br_q (by rw [qm_no hqn, sP_succ, hlk])) (hmk3.2.trans hr2) hT3 hP hD hS (lv_sub hl [1, 0] rfl)
      · have hno : sL its F a j = (false, sP its F a j) := hsL.trans ((if_neg hnm).trans (if_neg hpp))
        refine lv_aload_n hx hb d_MD_breaks_75 rfl (lv_at hl 0 rfl) ?_
        refine lv_iload_n hx hb d_MD_breaks_76 rfl (lv_at hl 1 rfl) ?_
        refine vp_callSi (va_Run.run (va_runV (As := [.int (nI (a + j + 1))]) (rest := []) ⟨hx, hb, hml, hown, hts⟩ (c_MD_penaltyAt l G A hA9 M1 _ its (a + j) hit1 hk1) (cwV 1 hts (tb_V tw_805 tw_807 tp_19 tw_8 tw_808) rfl rfl rfl (by decide +kernel) ⟨(Nat.le_of_ble_eq_true rfl), (Nat.le_of_ble_eq_true rfl)⟩) (pz_preV (zz_ok _ _ _) hK hP hD hS hA hz (ci := 10) rfl rfl (lm_in (by decide)) h_3) rfl rfl hl.1 rfl (lv_room (Nat.le_of_ble_eq_true rfl)) d_MD_breaks_77 ⟨(Nat.le_of_ble_eq_true rfl), (Nat.le_of_ble_eq_true rfl)⟩)) (fun r39 hw => ?_)
        have hw : r39 = (m_at its (a + j + 1)) := hw
        subst r39
        have hat : m_at its (a + j + 1) = ia := by rw [m_at, hi9]
        rw [hat]
        refine lv_istore_n (lv' := [(2, .int ia), (0, .ref (A 0)), (1, .int (nI (a + j + 1)))]) hx hb d_MD_breaks_80 rfl hl (by decide) rfl (fun ls hl => ?_)
        refine lv_iload_n hx hb d_MD_breaks_81 rfl (lv_at hl 0 rfl) ?_
        refine lv_sipush (v := 10000) hx hb d_MD_breaks_82 (by decide) ?_
        refine lv_icmp_ge (tgt := 163) hx hb d_MD_breaks_85 (by decide) (fun _ => ?_) (fun c0 => absurd (i32_le hpp) c0)
        have p5 : M1.pg = nI np := (congrFun hi1 5).trans hM5
        refine lv_aload_n hx hb d_MD_breaks_163 rfl (lv_at hl 1 rfl) ?_
        refine lv_aload_n hx hb d_MD_breaks_164 rfl (lv_at hl 1 rfl) ?_
        refine pz_get (ci := 10) (C := "PageMakerModel") (T := T_MD) (N := 26) hx hb htb in_MD hown hK hP (lm_in (by decide)) h_3 rfl 17 (by decide) (htb _ tw_699) (fun _ h9 => h9) rfl d_MD_breaks_165 ?_
        refine lv_topi (fun x40 ex40 => ?_)
        have ex40 : x40 = nI np := ex40.trans (p5)
        subst ex40
        refine lv_iload_n hx hb d_MD_breaks_168 rfl (lv_at hl 2 rfl) ?_
        refine pz_cv (va_runV (As := [.int (nI np), .int (nI (a + j + 1))]) (rest := []) ⟨hx, hb, hml, hown, hts⟩ (c_MD_add l G A hA9 M1 _ _ np (a + j + 1) F.2.2 (.inr (.inr (.inr ia))) (by omega) (by omega) (by rw [show M1.ds = M.ds from congrFun hr1 8]; exact hpg.2.2.1) (by rw [hr1]; exact him0) hok hT) (cwV 2 hts (tb_V tw_801 tw_803 tp_18 tw_8 tw_804) rfl rfl rfl (by decide +kernel) ⟨(Nat.le_of_ble_eq_true rfl), (Nat.le_of_ble_eq_true rfl)⟩) (pz_preV (zz_ok _ _ _) hK hP hD hS hA hz (ci := 10) rfl rfl (lm_in (by decide)) h_3) rfl rfl hl.1 rfl (lv_room (Nat.le_of_ble_eq_true rfl)) d_MD_breaks_169 ⟨(Nat.le_of_ble_eq_true rfl), (Nat.le_of_ble_eq_true rfl)⟩) hP hD hS hA (fun L8 f8 H locs hw hP hD hS => ?_)
        obtain ⟨M3, hu, hmk3, hT3⟩ := hw
        have eL8 : L8 = LM A := (Prod.mk.inj hu).1
        have ef8 : f8 = mF G A M3 := (Prod.mk.inj hu).2
        subst eL8
        subst ef8
        refine lv_iinc (v := nI (a + (j + 1) + 1)) (lv' := [(1, .int (nI (a + (j + 1) + 1))), (2, .int ia), (0, .ref (A 0))]) hx hb d_MD_breaks_172 hl (k := 2) rfl (nI_1 _) (by decide) rfl (fun ls hl => ?_)
        refine lv_goto (tgt := 47) hx hb d_MD_breaks_175 (by decide) ?_
        have hT3 : TM M3 (t_list its F a (a + (j + 1) + 1)) := by rw [show a + (j + 1) + 1 = a + j + 1 + 1 from rfl, hts9]; exact hT3
        exact ih (j + 1) M3 H locs ls (by omega) (br_all hb1 (by rw [hno])) (fun h9 => absurd (h9.symm.trans hqn) (by decide)) (by rw [hmk3.1, hi1]; exact br_q (by rw [qm_no hqn, sP_succ, hno, hq0])) (hmk3.2.trans hr1) hT3 hP hD hS (lv_sub hl [2, 0] rfl)
set_option maxHeartbeats 4000000 in
set_option maxRecDepth 100000 in
/-- model: breaks -/
theorem c_MD_breaks (l : Launch) (G : gG) (A : Nat → Nat) (hA9 : mJn A) (M : MS) (sz : Nat) (its : List It) (F : Fr) (a np : Nat) (hit : MIt M.r M.ct its) (hv : itsV its) (hpg : PR M.r np F a) (hnp : np ≤ 512) (hM5 : M.pg = nI np) (hM6 : M.bg = nI a) (hM7 : M.io = 1) (b0 b1 : Int32) (hbx : its[a]? = some (.inl (b0, b1))) : mI l y_MD_breaks w_MD_breaks ({ frames := 3, cells := 0, slots := 0, locals := 71 }) G (LM A) (mF G A M) sz [.ref (A 0)] 0 0 (fun r u => ∃ M1, u = (LM A, mF G A M1) ∧ ((r = 1 ∧ ∃ j, a + j + 1 < its.length ∧ (∀ i, i < j → (sL its F a i).1 = false) ∧ (sL its F a j).1 = true ∧ M1.i = va_up (va_up M.i 8 (sL its F a j).2.2.2.1) 9 (sL its F a j).2.2.2.2.1 ∧ M1.r = va_up M.r 12 (upd (M.r 12) np (sL its F a j).2.2.2.2.2.2)) ∨ (r = 0 ∧ (∀ i, a + i + 1 < its.length → (sL its F a i).1 = false) ∧ M1.i = va_up (va_up M.i 8 (sP its F a (its.length - a - 1)).2.2.1) 9 (sP its F a (its.length - a - 1)).2.2.2.1 ∧ M1.r = M.r))) := by
  refine pz_met (cc := prog_12_method_15_code) (maxL := 4) (ret := (some .boolean)) (by decide) rfl (Nat.le_of_ble_eq_true rfl) ?_
  intro p e s m below meth c ls hx hb hr hml hts hown hlocks hin hsz hK hP hD hS hA hz hl
  have htb : ∀ w ∈ TB, w.before _ s = true := fun w h => hts w (List.mem_cons_of_mem _ h)
  have hl : lv_has ls 4 [(0, .ref (A 0))] := hl
  have hn5 : its.length ≤ 512 := hit.2.1
  have ha1 : a < its.length := (List.getElem?_eq_some_iff.mp hbx).1
  obtain ⟨him, -⟩ := hit.2.2 a _ hbx
  refine lv_aload_n hx hb d_MD_breaks_0 rfl (lv_at hl 0 rfl) ?_
  refine lv_iconst (v := (-1)) hx hb d_MD_breaks_1 (by decide) ?_
  have h_1 : mF G A M (A 0) = .inr (10, [.int M.th, .ref (A 1), .ref (A 2), .ref (A 3), .ref (A 4), .ref (A 5), .int M.ct, .int M.ht, .int M.tp, .int M.gr, .ref (A 6), .ref (A 7), .ref (A 8), .ref (A 9), .ref (A 10), .ref (A 11), .ref (A 12), .int M.pg, .int M.bg, .int M.io, .int M.be, .int M.le, .long M.ln, .long M.dp, .ref (A 13), .long M.sh]) := mf_at hA9 M 0 (by decide)
  refine pz_put (ci := 10) (v := .int (-1)) (ty := .int) (C := "PageMakerModel") (T := T_MD) (N := 26) hx hb htb in_MD ty_MD to_MD nm_MD hown hK hP hD hS (lm_in (by decide)) h_1 rfl 20 (by decide) (htb _ tw_702) (fun _ h9 => h9) rfl rfl rfl rfl (Nat.le_of_ble_eq_true rfl) d_MD_breaks_2 (fun f2 H locs ef2 hP hD hS => ?_)
  have ef2 : f2 = va_up (mF G A M) (A 0) (.inr (10, [.int M.th, .ref (A 1), .ref (A 2), .ref (A 3), .ref (A 4), .ref (A 5), .int M.ct, .int M.ht, .int M.tp, .int M.gr, .ref (A 6), .ref (A 7), .ref (A 8), .ref (A 9), .ref (A 10), .ref (A 11), .ref (A 12), .int M.pg, .int M.bg, .int M.io, .int (-1), .int M.le, .long M.ln, .long M.dp, .ref (A 13), .long M.sh])) := ef2
  have ef2 : f2 = mF G A (M.si 8 (-1)) := ef2.trans (mf_o hA9 (M1 := M.si 8 (-1)) rfl rfl)
  subst ef2
  refine lv_aload_n hx hb d_MD_breaks_5 rfl (lv_at hl 0 rfl) ?_
  refine lv_ldc (v := 1073741823) hx hb hown (htb _ tw_681) d_MD_breaks_6 ?_
  have h_3 : mF G A (M.si 8 (-1)) (A 0) = .inr (10, [.int M.th, .ref (A 1), .ref (A 2), .ref (A 3), .ref (A 4), .ref (A 5), .int M.ct, .int M.ht, .int M.tp, .int M.gr, .ref (A 6), .ref (A 7), .ref (A 8), .ref (A 9), .ref (A 10), .ref (A 11), .ref (A 12), .int M.pg, .int M.bg, .int M.io, .int (-1), .int M.le, .long M.ln, .long M.dp, .ref (A 13), .long M.sh]) := mf_at hA9 (M.si 8 (-1)) 0 (by decide)
  refine pz_put (ci := 10) (v := .int 1073741823) (ty := .int) (C := "PageMakerModel") (T := T_MD) (N := 26) hx hb htb in_MD ty_MD to_MD nm_MD hown hK hP hD hS (lm_in (by decide)) h_3 rfl 21 (by decide) (htb _ tw_703) (fun _ h9 => h9) rfl rfl rfl rfl (Nat.le_of_ble_eq_true rfl) d_MD_breaks_8 (fun f4 H locs ef4 hP hD hS => ?_)
  have ef4 : f4 = va_up (mF G A (M.si 8 (-1))) (A 0) (.inr (10, [.int M.th, .ref (A 1), .ref (A 2), .ref (A 3), .ref (A 4), .ref (A 5), .int M.ct, .int M.ht, .int M.tp, .int M.gr, .ref (A 6), .ref (A 7), .ref (A 8), .ref (A 9), .ref (A 10), .ref (A 11), .ref (A 12), .int M.pg, .int M.bg, .int M.io, .int (-1), .int 1073741823, .long M.ln, .long M.dp, .ref (A 13), .long M.sh])) := ef4
  have ef4 : f4 = mF G A ((M.si 8 (-1)).si 9 1073741823) := ef4.trans (mf_o hA9 (M1 := (M.si 8 (-1)).si 9 1073741823) rfl rfl)
  subst ef4
  refine lv_aload_n hx hb d_MD_breaks_11 rfl (lv_at hl 0 rfl) ?_
  have h_5 : mF G A ((M.si 8 (-1)).si 9 1073741823) (A 0) = .inr (10, [.int M.th, .ref (A 1), .ref (A 2), .ref (A 3), .ref (A 4), .ref (A 5), .int M.ct, .int M.ht, .int M.tp, .int M.gr, .ref (A 6), .ref (A 7), .ref (A 8), .ref (A 9), .ref (A 10), .ref (A 11), .ref (A 12), .int M.pg, .int M.bg, .int M.io, .int (-1), .int 1073741823, .long M.ln, .long M.dp, .ref (A 13), .long M.sh]) := mf_at hA9 ((M.si 8 (-1)).si 9 1073741823) 0 (by decide)
  refine pz_get (ci := 10) (C := "PageMakerModel") (T := T_MD) (N := 26) hx hb htb in_MD hown hK hP (lm_in (by decide)) h_5 rfl 19 (by decide) (htb _ tw_701) (fun _ h9 => h9) rfl d_MD_breaks_12 ?_
  refine lv_topi (fun x6 ex6 => ?_)
  have ex6 : x6 = 1 := ex6.trans (hM7)
  subst ex6
  refine lv_if_ne (tgt := 20) hx hb d_MD_breaks_15 (by decide) (fun _ => ?_) (fun c0 => absurd c0 (by decide))
  refine lv_aload_n hx hb d_MD_breaks_20 rfl (lv_at hl 0 rfl) ?_
  refine lv_aload_n hx hb d_MD_breaks_21 rfl (lv_at hl 0 rfl) ?_
  refine pz_get (ci := 10) (C := "PageMakerModel") (T := T_MD) (N := 26) hx hb htb in_MD hown hK hP (lm_in (by decide)) h_5 rfl 17 (by decide) (htb _ tw_699) (fun _ h9 => h9) rfl d_MD_breaks_22 ?_
  refine lv_topi (fun x7 ex7 => ?_)
  have ex7 : x7 = nI np := ex7.trans (hM5)
  subst ex7
  refine pz_cv (va_runV (As := [.int (nI np)]) (rest := []) ⟨hx, hb, hml, hown, hts⟩ (c_MD_clear l G A hA9 ((M.si 8 (-1)).si 9 1073741823) _ F np a b0 (by omega) (by omega) hpg him.2.1) (cwV 1 hts (tb_V tw_797 tw_799 tp_17 tw_8 tw_800) rfl rfl rfl (by decide +kernel) ⟨(Nat.le_of_ble_eq_true rfl), (Nat.le_of_ble_eq_true rfl)⟩) (pz_preV (zz_ok _ _ _) hK hP hD hS hA hz (ci := 10) rfl rfl (lm_in (by decide)) h_5) rfl rfl hl.1 rfl (lv_room (Nat.le_of_ble_eq_true rfl)) d_MD_breaks_25 ⟨(Nat.le_of_ble_eq_true rfl), (Nat.le_of_ble_eq_true rfl)⟩) hP hD hS hA (fun L8 f8 H locs hw hP hD hS => ?_)
  obtain ⟨M1, hu, hmk, htm⟩ := hw
  have eL8 : L8 = LM A := (Prod.mk.inj hu).1
  have ef8 : f8 = mF G A M1 := (Prod.mk.inj hu).2
  subst eL8
  subst ef8
  have r5 : M1.pg = nI np := (congrFun hmk.1 5).trans hM5
  have r6 : M1.bg = nI a := (congrFun hmk.1 6).trans hM6
  have hr9 : M1.r = M.r := hmk.2
  refine lv_aload_n hx hb d_MD_breaks_28 rfl (lv_at hl 0 rfl) ?_
  refine lv_aload_n hx hb d_MD_breaks_29 rfl (lv_at hl 0 rfl) ?_
  have h_8 : mF G A M1 (A 0) = .inr (10, [.int M1.th, .ref (A 1), .ref (A 2), .ref (A 3), .ref (A 4), .ref (A 5), .int M1.ct, .int M1.ht, .int M1.tp, .int M1.gr, .ref (A 6), .ref (A 7), .ref (A 8), .ref (A 9), .ref (A 10), .ref (A 11), .ref (A 12), .int M1.pg, .int M1.bg, .int M1.io, .int M1.be, .int M1.le, .long M1.ln, .long M1.dp, .ref (A 13), .long M1.sh]) := mf_at hA9 M1 0 (by decide)
  refine pz_get (ci := 10) (C := "PageMakerModel") (T := T_MD) (N := 26) hx hb htb in_MD hown hK hP (lm_in (by decide)) h_8 rfl 17 (by decide) (htb _ tw_699) (fun _ h9 => h9) rfl d_MD_breaks_30 ?_
  refine lv_topi (fun x9 ex9 => ?_)
  have ex9 : x9 = nI np := ex9.trans (r5)
  subst ex9
  refine lv_aload_n hx hb d_MD_breaks_33 rfl (lv_at hl 0 rfl) ?_
  refine pz_get (ci := 10) (C := "PageMakerModel") (T := T_MD) (N := 26) hx hb htb in_MD hown hK hP (lm_in (by decide)) h_8 rfl 18 (by decide) (htb _ tw_700) (fun _ h9 => h9) rfl d_MD_breaks_34 ?_
  refine lv_topi (fun x10 ex10 => ?_)
  have ex10 : x10 = nI a := ex10.trans (r6)
  subst ex10
  refine pz_cv (va_runV (As := [.int (nI np), .int (nI a)]) (rest := []) ⟨hx, hb, hml, hown, hts⟩ (c_MD_add l G A hA9 M1 _ _ np a F.2.2 (.inl (b0, b1)) (by omega) (by omega) (by rw [show M1.ds = M.ds from congrFun hr9 8]; exact hpg.2.2.1) (by rw [hr9]; exact him) trivial htm) (cwV 2 hts (tb_V tw_801 tw_803 tp_18 tw_8 tw_804) rfl rfl rfl (by decide +kernel) ⟨(Nat.le_of_ble_eq_true rfl), (Nat.le_of_ble_eq_true rfl)⟩) (pz_preV (zz_ok _ _ _) hK hP hD hS hA hz (ci := 10) rfl rfl (lm_in (by decide)) h_8) rfl rfl hl.1 rfl (lv_room (Nat.le_of_ble_eq_true rfl)) d_MD_breaks_37 ⟨(Nat.le_of_ble_eq_true rfl), (Nat.le_of_ble_eq_true rfl)⟩) hP hD hS hA (fun L8 f8 H locs hw hP hD hS => ?_)
  obtain ⟨M2, hu, hmk2, htm2⟩ := hw
  have eL8 : L8 = LM A := (Prod.mk.inj hu).1
  have ef8 : f8 = mF G A M2 := (Prod.mk.inj hu).2
  subst eL8
  subst ef8
  have r6 : M2.bg = nI a := (congrFun hmk2.1 6).trans r6
  refine lv_aload_n hx hb d_MD_breaks_40 rfl (lv_at hl 0 rfl) ?_
  have h_11 : mF G A M2 (A 0) = .inr (10, [.int M2.th, .ref (A 1), .ref (A 2), .ref (A 3), .ref (A 4), .ref (A 5), .int M2.ct, .int M2.ht, .int M2.tp, .int M2.gr, .ref (A 6), .ref (A 7), .ref (A 8), .ref (A 9), .ref (A 10), .ref (A 11), .ref (A 12), .int M2.pg, .int M2.bg, .int M2.io, .int M2.be, .int M2.le, .long M2.ln, .long M2.dp, .ref (A 13), .long M2.sh]) := mf_at hA9 M2 0 (by decide)
  refine pz_get (ci := 10) (C := "PageMakerModel") (T := T_MD) (N := 26) hx hb htb in_MD hown hK hP (lm_in (by decide)) h_11 rfl 18 (by decide) (htb _ tw_700) (fun _ h9 => h9) rfl d_MD_breaks_41 ?_
  refine lv_topi (fun x12 ex12 => ?_)
  have ex12 : x12 = nI a := ex12.trans (r6)
  subst ex12
  refine lv_iconst (v := 1) hx hb d_MD_breaks_44 (by decide) ?_
  refine lv_iadd hx hb d_MD_breaks_45 ?_
  refine lv_topi (fun x13 ex13 => ?_)
  have ex13 : x13 = nI (a + 1) := ex13.trans (nI_1 _)
  subst ex13
  refine lv_istore_n (lv' := [(1, .int (nI (a + 1))), (0, .ref (A 0))]) hx hb d_MD_breaks_46 rfl hl (by decide) rfl (fun ls hl => ?_)
  have hpd : pend its (a + 0) = false := pend_not hbx (by intro w h9; cases h9)
  have hT2 : TM M2 (t_list its F a (a + 0 + 1)) := by rw [show a + 0 + 1 = a + 1 from rfl, t_list_succ (Nat.le_refl a) hbx, t_list, Nat.sub_self, t_run, t_top, hbx]; exact htm2
  exact lp_breaks l G A hA9 M sz its F a np hx hb hr hml hts hown hlocks hK hA hz hit hv hpg hnp hM5 hM6 hM7 b0 b1 hbx (its.length - a - 1) 0 M2 H locs ls (by omega) (fun i h9 => absurd h9 (Nat.not_lt_zero _)) (fun h9 => absurd (h9.symm.trans hpd) (by decide)) (by rw [hmk2.1, hmk.1]; exact br_0 (qm_no hpd)) (hmk2.2.trans hr9) hT2 hP hD hS (lv_sub hl [1, 0] rfl)
set_option maxHeartbeats 4000000 in
set_option maxRecDepth 100000 in
/-- model: breaks, no page is open -/
theorem c_MD_breaks0 (l : Launch) (G : gG) (A : Nat → Nat) (hA9 : mJn A) (M : MS) (sz : Nat)  (hM7 : M.io = 0) : mI l y_MD_breaks w_MD_breaks ({ frames := 0, cells := 0, slots := 0, locals := 0 }) G (LM A) (mF G A M) sz [.ref (A 0)] 0 0 (fun r u => r = 0 ∧ u = (LM A, mF G A ((M.si 8 (-1)).si 9 1073741823))) := by
  refine pz_met (cc := prog_12_method_15_code) (maxL := 4) (ret := (some .boolean)) (by decide) rfl (Nat.le_of_ble_eq_true rfl) ?_
  intro p e s m below meth c ls hx hb hr hml hts hown hlocks hin hsz hK hP hD hS hA hz hl
  have htb : ∀ w ∈ TB, w.before _ s = true := fun w h => hts w (List.mem_cons_of_mem _ h)
  have hl : lv_has ls 4 [(0, .ref (A 0))] := hl
  refine lv_aload_n hx hb d_MD_breaks_0 rfl (lv_at hl 0 rfl) ?_
  refine lv_iconst (v := (-1)) hx hb d_MD_breaks_1 (by decide) ?_
  have h_1 : mF G A M (A 0) = .inr (10, [.int M.th, .ref (A 1), .ref (A 2), .ref (A 3), .ref (A 4), .ref (A 5), .int M.ct, .int M.ht, .int M.tp, .int M.gr, .ref (A 6), .ref (A 7), .ref (A 8), .ref (A 9), .ref (A 10), .ref (A 11), .ref (A 12), .int M.pg, .int M.bg, .int M.io, .int M.be, .int M.le, .long M.ln, .long M.dp, .ref (A 13), .long M.sh]) := mf_at hA9 M 0 (by decide)
  refine pz_put (ci := 10) (v := .int (-1)) (ty := .int) (C := "PageMakerModel") (T := T_MD) (N := 26) hx hb htb in_MD ty_MD to_MD nm_MD hown hK hP hD hS (lm_in (by decide)) h_1 rfl 20 (by decide) (htb _ tw_702) (fun _ h9 => h9) rfl rfl rfl rfl (Nat.le_of_ble_eq_true rfl) d_MD_breaks_2 (fun f2 H locs ef2 hP hD hS => ?_)
  have ef2 : f2 = va_up (mF G A M) (A 0) (.inr (10, [.int M.th, .ref (A 1), .ref (A 2), .ref (A 3), .ref (A 4), .ref (A 5), .int M.ct, .int M.ht, .int M.tp, .int M.gr, .ref (A 6), .ref (A 7), .ref (A 8), .ref (A 9), .ref (A 10), .ref (A 11), .ref (A 12), .int M.pg, .int M.bg, .int M.io, .int (-1), .int M.le, .long M.ln, .long M.dp, .ref (A 13), .long M.sh])) := ef2
  have ef2 : f2 = mF G A (M.si 8 (-1)) := ef2.trans (mf_o hA9 (M1 := M.si 8 (-1)) rfl rfl)
  subst ef2
  refine lv_aload_n hx hb d_MD_breaks_5 rfl (lv_at hl 0 rfl) ?_
  refine lv_ldc (v := 1073741823) hx hb hown (htb _ tw_681) d_MD_breaks_6 ?_
  have h_3 : mF G A (M.si 8 (-1)) (A 0) = .inr (10, [.int M.th, .ref (A 1), .ref (A 2), .ref (A 3), .ref (A 4), .ref (A 5), .int M.ct, .int M.ht, .int M.tp, .int M.gr, .ref (A 6), .ref (A 7), .ref (A 8), .ref (A 9), .ref (A 10), .ref (A 11), .ref (A 12), .int M.pg, .int M.bg, .int M.io, .int (-1), .int M.le, .long M.ln, .long M.dp, .ref (A 13), .long M.sh]) := mf_at hA9 (M.si 8 (-1)) 0 (by decide)
  refine pz_put (ci := 10) (v := .int 1073741823) (ty := .int) (C := "PageMakerModel") (T := T_MD) (N := 26) hx hb htb in_MD ty_MD to_MD nm_MD hown hK hP hD hS (lm_in (by decide)) h_3 rfl 21 (by decide) (htb _ tw_703) (fun _ h9 => h9) rfl rfl rfl rfl (Nat.le_of_ble_eq_true rfl) d_MD_breaks_8 (fun f4 H locs ef4 hP hD hS => ?_)
  have ef4 : f4 = va_up (mF G A (M.si 8 (-1))) (A 0) (.inr (10, [.int M.th, .ref (A 1), .ref (A 2), .ref (A 3), .ref (A 4), .ref (A 5), .int M.ct, .int M.ht, .int M.tp, .int M.gr, .ref (A 6), .ref (A 7), .ref (A 8), .ref (A 9), .ref (A 10), .ref (A 11), .ref (A 12), .int M.pg, .int M.bg, .int M.io, .int (-1), .int 1073741823, .long M.ln, .long M.dp, .ref (A 13), .long M.sh])) := ef4
  have ef4 : f4 = mF G A ((M.si 8 (-1)).si 9 1073741823) := ef4.trans (mf_o hA9 (M1 := (M.si 8 (-1)).si 9 1073741823) rfl rfl)
  subst ef4
  refine lv_aload_n hx hb d_MD_breaks_11 rfl (lv_at hl 0 rfl) ?_
  have h_5 : mF G A ((M.si 8 (-1)).si 9 1073741823) (A 0) = .inr (10, [.int M.th, .ref (A 1), .ref (A 2), .ref (A 3), .ref (A 4), .ref (A 5), .int M.ct, .int M.ht, .int M.tp, .int M.gr, .ref (A 6), .ref (A 7), .ref (A 8), .ref (A 9), .ref (A 10), .ref (A 11), .ref (A 12), .int M.pg, .int M.bg, .int M.io, .int (-1), .int 1073741823, .long M.ln, .long M.dp, .ref (A 13), .long M.sh]) := mf_at hA9 ((M.si 8 (-1)).si 9 1073741823) 0 (by decide)
  refine pz_get (ci := 10) (C := "PageMakerModel") (T := T_MD) (N := 26) hx hb htb in_MD hown hK hP (lm_in (by decide)) h_5 rfl 19 (by decide) (htb _ tw_701) (fun _ h9 => h9) rfl d_MD_breaks_12 ?_
  refine lv_topi (fun x6 ex6 => ?_)
  have ex6 : x6 = 0 := ex6.trans (hM7)
  subst ex6
  refine lv_if_ne (tgt := 20) hx hb d_MD_breaks_15 (by decide) (fun c0 => absurd c0 (by decide)) (fun _ => ?_)
  refine lv_iconst (v := 0) hx hb d_MD_breaks_18 (by decide) ?_
  exact pz_iret hx hb hr rfl hlocks hK hP hD hS (Nat.le_of_ble_eq_true rfl) (Nat.le_of_ble_eq_true rfl) ⟨rfl, rfl⟩ d_MD_breaks_19
