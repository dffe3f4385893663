/-! THE MODEL: addUpTo, penaltyAt, orderOf, nearest -/
def MIt (r : Nat → Nat → Int32) (c : Int32) (its : List It) : Prop := c = nI its.length ∧ its.length ≤ 512 ∧ ∀ (i : Nat) (it : It), its[i]? = some it → itM r i it ∧ itOK it
/-- the penalty of a break at k, as the model has it -/
def m_at (its : List It) (k : Nat) : Int32 := match its[k]? with
  | some (.inr (.inl _)) => (match its[k - 1]? with
    | some (.inl _) => 0
    | _ => 10000)
  | some (.inr (.inr (.inl _))) => (match its[k + 1]? with
    | some (.inr (.inl _)) => 0
    | _ => 10000)
  | some (.inr (.inr (.inr p))) => p
  | _ => 10000
def k_nd (a b : Int64) (k : Int32) (r : Int64) : Int64 := r * 1048576 + ((a >>> (k.toInt64 &&& 63)) &&& 1048575) * b
def k_n1 (a b c : Int64) : Int64 := k_rem (k_nd a b 60 0) c
def k_n2 (a b c : Int64) : Int64 := k_rem (k_nd a b 40 (k_n1 a b c)) c
def k_n3 (a b c : Int64) : Int64 := k_rem (k_nd a b 20 (k_n2 a b c)) c
def k_n4 (a b c : Int64) : Int64 := k_rem (k_nd a b 0 (k_n3 a b c)) c
def k_w1 (a b c : Int64) : Int64 := 0 * 1048576 + k_nd a b 60 0 / c
def k_w2 (a b c : Int64) : Int64 := k_w1 a b c * 1048576 + k_nd a b 40 (k_n1 a b c) / c
def k_w3 (a b c : Int64) : Int64 := k_w2 a b c * 1048576 + k_nd a b 20 (k_n2 a b c) / c
def k_w4 (a b c : Int64) : Int64 := k_w3 a b c * 1048576 + k_nd a b 0 (k_n3 a b c) / c
def k_near (a b c : Int64) : Int64 := if c - k_n4 a b c ≤ k_n4 a b c then k_w4 a b c + 1 else k_w4 a b c
set_option maxHeartbeats 4000000 in
set_option maxRecDepth 100000 in
/-- model: addUpTo, its loop at k -/
theorem lp_addUpTo (l : Launch) (G : gG) (A : Nat → Nat) (hA9 : mJn A) (M : MS) (sz : Nat) (its : List It) (F : Fr) (j a b : Nat) {p : Program} {e : Env} {s : State} {m : MethodId} {below : List Frame} {meth : Method} {c : Code} (hx : p.tables.exec = Jvm.exec) (hb : c.code = prog_12_method_8_code) (hr : meth.sig.returnType = none) (hml : c.maxLocals = 4) (hts : ∀ w ∈ w_MD_addUpTo, w.before ([.ref (A 0), .int (nI j), .int (nI b)] : List Value).toArray s = true) (hown : s.vm.findClass "PageMakerModel" = some m.cls) (hlocks : meth.locks = false) (hK : va_K (gD G) cls9 (gT G) s) (hA : ∀ q, s.heap.size ≤ q → mA (LM A) (mF G A M) sz q) (hz : gZ G (mA (LM A) (mF G A M) sz) s s.heap) (hj : j ≤ 2000) (hit : MIt M.r M.ct its) (hpg : PR M.r j F a) (hbn : b ≤ its.length) :
    ∀ (mm k : Nat) (M1 : MS) (T : Tt) (H : Heap) (locs : List Loc) (ls : Array Slot), k + mm = b → t_run its F.2.2 k mm T = t_list its F a b → MK M1 M → TM M1 T → va_P (gD G) cls9 ([] ++ va_pl (LM A) (mF G A M1)) H → va_D (mA (LM A) (mF G A M) sz) ([] ++ va_pl (LM A) (mF G A M1)) → va_S (mA (LM A) (mF G A M) sz) s.heap H locs → lv_has ls 4 [(0, .ref (A 0)), (1, .int (nI j)), (2, .int (nI b)), (3, .int (nI k))] →
      W p l e ({ frames := 1, cells := 0, slots := 0, locals := 22 } : Room) s m ([.ref (A 0), .int (nI j), .int (nI b)] : List Value).toArray below meth c H locs 0 0 (MQ below (va_Qv (fun u => ∃ M1, u = (LM A, mF G A M1) ∧ MK M1 M ∧ TM M1 (t_list its F a b)) (pz_B (gD G) cls9 (gT G) (mA (LM A) (mF G A M) sz)) (mA (LM A) (mF G A M) sz)) ([.ref (A 0), .int (nI j), .int (nI b)] : List Value).toArray s 0 0 (mA (LM A) (mF G A M) sz)) (F0 m 12 ls []) := by
  have htb : ∀ w ∈ TB, w.before _ s = true := fun w h => hts w (List.mem_cons_of_mem _ h)
  have hn5 : its.length ≤ 512 := hit.2.1
  intro mm
  induction mm with
  | zero =>
    intro k M1 T H locs ls hk hT hmk htm hP hD hS hl
    refine lv_iload_n hx hb d_MD_addUpTo_12 rfl (lv_at hl 3 rfl) ?_
    refine lv_iload_n hx hb d_MD_addUpTo_13 rfl (lv_at hl 2 rfl) ?_
    refine lv_icmp_ge (tgt := 29) hx hb d_MD_addUpTo_14 (by decide) (fun _ => ?_) (fun c0 => absurd (nI_le (by omega) (by omega)) c0)
    exact pz_vret hx hb hr hlocks hK hP hD hS (Nat.le_refl _) (Nat.le_refl _) ⟨M1, rfl, hmk, by rw [← hT]; exact htm⟩ d_MD_addUpTo_29
  | succ mm ih =>
    intro k M1 T H locs ls hk hT hmk htm hP hD hS hl
    obtain ⟨it, hi9⟩ : ∃ it, its[k]? = some it := ⟨_, List.getElem?_eq_getElem (by omega)⟩
    obtain ⟨him, hok⟩ := hit.2.2 k it hi9
    have hr9 : M1.r = M.r := hmk.2
    refine lv_iload_n hx hb d_MD_addUpTo_12 rfl (lv_at hl 3 rfl) ?_
    refine lv_iload_n hx hb d_MD_addUpTo_13 rfl (lv_at hl 2 rfl) ?_
    refine lv_icmp_ge (tgt := 29) hx hb d_MD_addUpTo_14 (by decide) (fun c0 => absurd c0 (nI_ge (by omega) (by omega))) (fun _ => ?_)
    refine lv_aload_n hx hb d_MD_addUpTo_17 rfl (lv_at hl 0 rfl) ?_
    refine lv_iload_n hx hb d_MD_addUpTo_18 rfl (lv_at hl 1 rfl) ?_
    refine lv_iload_n hx hb d_MD_addUpTo_19 rfl (lv_at hl 3 rfl) ?_
    have h_1 : mF G A M1 (A 0) = .inr (10, [.int M1.th, .ref (A 1), .ref (A 2), .ref (A 3), .ref (A 4), .ref (A 5), .int M1.ct, .int M1.ht, .int M1.tp, .int M1.gr, .ref (A 6), .ref (A 7), .ref (A 8), .ref (A 9), .ref (A 10), .ref (A 11), .ref (A 12), .int M1.pg, .int M1.bg, .int M1.io, .int M1.be, .int M1.le, .long M1.ln, .long M1.dp, .ref (A 13), .long M1.sh]) := mf_at hA9 M1 0 (by decide)
    refine pz_cv (va_runV (As := [.int (nI j), .int (nI k)]) (rest := []) ⟨hx, hb, hml, hown, hts⟩ (c_MD_add l G A hA9 M1 _ T j k F.2.2 it hj (by omega) (by rw [show M1.ds = M.ds from congrFun hr9 8]; exact hpg.2.2.1) (by rw [hr9]; exact him) hok htm) (cwV 2 hts (tb_V tw_801 tw_803 tp_18 tw_8 tw_804) rfl rfl rfl (by decide +kernel) ⟨(Nat.le_of_ble_eq_true rfl), (Nat.le_of_ble_eq_true rfl)⟩) (pz_preV (zz_ok _ _ _) hK hP hD hS hA hz (ci := 10) rfl rfl (lm_in (by decide)) h_1) rfl rfl hl.1 rfl (lv_room (Nat.le_of_ble_eq_true rfl)) d_MD_addUpTo_20 ⟨(Nat.le_of_ble_eq_true rfl), (Nat.le_of_ble_eq_true rfl)⟩) hP hD hS hA (fun L8 f8 H locs hw hP hD hS => ?_)
    obtain ⟨M2, hu, hmk2, htm2⟩ := hw
    have eL8 : L8 = LM A := (Prod.mk.inj hu).1
    have ef8 : f8 = mF G A M2 := (Prod.mk.inj hu).2
    subst eL8
    subst ef8
    refine lv_iinc (v := nI (k + 1)) (lv' := [(3, .int (nI (k + 1))), (0, .ref (A 0)), (1, .int (nI j)), (2, .int (nI b))]) hx hb d_MD_addUpTo_23 hl (k := 3) rfl (nI_1 k) (by decide) rfl (fun ls hl => ?_)
    refine lv_goto (tgt := 12) hx hb d_MD_addUpTo_26 (by decide) ?_
    exact ih (k + 1) M2 _ H locs ls (by omega) ((t_run_succ hi9).symm.trans hT) ⟨hmk2.1.trans hmk.1, hmk2.2.trans hmk.2⟩ htm2 hP hD hS (lv_sub hl [1, 2, 3, 0] rfl)
set_option maxHeartbeats 4000000 in
set_option maxRecDepth 100000 in
/-- model: addUpTo -/
theorem c_MD_addUpTo (l : Launch) (G : gG) (A : Nat → Nat) (hA9 : mJn A) (M : MS) (sz : Nat) (its : List It) (F : Fr) (j a b : Nat) (b0 b1 : Int32) (hj : j ≤ 2000) (hit : MIt M.r M.ct its) (hpg : PR M.r j F a) (hbx : its[a]? = some (.inl (b0, b1))) (hab : a ≤ b) (hbn : b ≤ its.length) : mV l y_MD_addUpTo w_MD_addUpTo ({ frames := 1, cells := 0, slots := 0, locals := 22 }) G (LM A) (mF G A M) sz [.ref (A 0), .int (nI j), .int (nI b)] 0 0 (fun u => ∃ M1, u = (LM A, mF G A M1) ∧ MK M1 M ∧ TM M1 (t_list its F a b)) := by
  refine pz_met (cc := prog_12_method_8_code) (maxL := 4) (ret := none) (by decide) rfl (Nat.le_of_ble_eq_true rfl) ?_
  intro p e s m below meth c ls hx hb hr hml hts hown hlocks hin hsz hK hP hD hS hA hz hl
  have htb : ∀ w ∈ TB, w.before _ s = true := fun w h => hts w (List.mem_cons_of_mem _ h)
  have hl : lv_has ls 4 [(0, .ref (A 0)), (1, .int (nI j)), (2, .int (nI b))] := hl
  have hn5 : its.length ≤ 512 := hit.2.1
  obtain ⟨him, -⟩ := hit.2.2 a _ hbx
  have ha1 : a < its.length := (List.getElem?_eq_some_iff.mp hbx).1
  refine lv_aload_n hx hb d_MD_addUpTo_0 rfl (lv_at hl 0 rfl) ?_
  refine lv_iload_n hx hb d_MD_addUpTo_1 rfl (lv_at hl 1 rfl) ?_
  have h_1 : mF G A M (A 0) = .inr (10, [.int M.th, .ref (A 1), .ref (A 2), .ref (A 3), .ref (A 4), .ref (A 5), .int M.ct, .int M.ht, .int M.tp, .int M.gr, .ref (A 6), .ref (A 7), .ref (A 8), .ref (A 9), .ref (A 10), .ref (A 11), .ref (A 12), .int M.pg, .int M.bg, .int M.io, .int M.be, .int M.le, .long M.ln, .long M.dp, .ref (A 13), .long M.sh]) := mf_at hA9 M 0 (by decide)
  refine pz_cv (va_runV (As := [.int (nI j)]) (rest := []) ⟨hx, hb, hml, hown, hts⟩ (c_MD_clear l G A hA9 M _ F j a b0 hj (by omega) hpg him.2.1) (cwV 1 hts (tb_V tw_797 tw_799 tp_17 tw_8 tw_800) rfl rfl rfl (by decide +kernel) ⟨(Nat.le_of_ble_eq_true rfl), (Nat.le_of_ble_eq_true rfl)⟩) (pz_preV (zz_ok _ _ _) hK hP hD hS hA hz (ci := 10) rfl rfl (lm_in (by decide)) h_1) rfl rfl hl.1 rfl (lv_room (Nat.le_of_ble_eq_true rfl)) d_MD_addUpTo_2 ⟨(Nat.le_of_ble_eq_true rfl), (Nat.le_of_ble_eq_true rfl)⟩) hP hD hS hA (fun L8 f8 H locs hw hP hD hS => ?_)
  obtain ⟨M1, hu, hmk, htm⟩ := hw
  have eL8 : L8 = LM A := (Prod.mk.inj hu).1
  have ef8 : f8 = mF G A M1 := (Prod.mk.inj hu).2
  subst eL8
  subst ef8
  have hr9 : M1.r = M.r := hmk.2
  refine lv_aload_n hx hb d_MD_addUpTo_5 rfl (lv_at hl 0 rfl) ?_
  have h_2 : mF G A M1 (A 0) = .inr (10, [.int M1.th, .ref (A 1), .ref (A 2), .ref (A 3), .ref (A 4), .ref (A 5), .int M1.ct, .int M1.ht, .int M1.tp, .int M1.gr, .ref (A 6), .ref (A 7), .ref (A 8), .ref (A 9), .ref (A 10), .ref (A 11), .ref (A 12), .int M1.pg, .int M1.bg, .int M1.io, .int M1.be, .int M1.le, .long M1.ln, .long M1.dp, .ref (A 13), .long M1.sh]) := mf_at hA9 M1 0 (by decide)
  refine pz_get (ci := 10) (C := "PageMakerModel") (T := T_MD) (N := 26) hx hb htb in_MD hown hK hP (lm_in (by decide)) h_2 rfl 13 (by decide) (htb _ tw_695) (fun _ h9 => h9) rfl d_MD_addUpTo_6 ?_
  refine lv_iload_n hx hb d_MD_addUpTo_9 rfl (lv_at hl 1 rfl) ?_
  have h_3 : mF G A M1 (A 9) = .inl (cI G, 2001, .inl M1.fs) := mf_at hA9 M1 9 (by decide)
  refine pz_iald (j := j) hx hb hK hP 0 (lm_in (by decide)) h_3 rfl (by omega) (by decide) d_MD_addUpTo_10 ?_
  refine lv_topi (fun x4 ex4 => ?_)
  have ex4 : x4 = nI a := ex4.trans (((congrFun (congrFun hr9 9) j).trans hpg.2.2.2))
  subst ex4
  refine lv_istore_n (lv' := [(3, .int (nI a)), (0, .ref (A 0)), (1, .int (nI j)), (2, .int (nI b))]) hx hb d_MD_addUpTo_11 rfl hl (by decide) rfl (fun ls hl => ?_)
  exact lp_addUpTo l G A hA9 M sz its F j a b hx hb hr hml hts hown hlocks hK hA hz hj hit hpg hbn (b - a) a M1 _ H locs ls (by omega) (by rw [t_list, t_top, hbx]) hmk htm hP hD hS (lv_sub hl [1, 2, 3, 0] rfl)
set_option maxHeartbeats 4000000 in
set_option maxRecDepth 100000 in
/-- model: penaltyAt -/
theorem c_MD_penaltyAt (l : Launch) (G : gG) (A : Nat → Nat) (hA9 : mJn A) (M : MS) (sz : Nat) (its : List It) (k : Nat) (hit : MIt M.r M.ct its) (hk : k + 1 < its.length) : sI l y_MD_penaltyAt w_MD_penaltyAt ({ frames := 0, cells := 0, slots := 0, locals := 0 }) G (LM A) (mF G A M) sz [.ref (A 0), .int (nI (k + 1))] (fun r => r = m_at its (k + 1)) := by
  refine pz_met (cc := prog_12_method_13_code) (maxL := 2) (ret := (some .int)) (by decide) rfl (Nat.le_of_ble_eq_true rfl) ?_
  intro p e s m below meth c ls hx hb hr hml hts hown hlocks hin hsz hK hP hD hS hA hz hl
  have htb : ∀ w ∈ TB, w.before _ s = true := fun w h => hts w (List.mem_cons_of_mem _ h)
  have hl : lv_has ls 2 [(0, .ref (A 0)), (1, .int (nI (k + 1)))] := hl
  have hn5 : its.length ≤ 512 := hit.2.1
  obtain ⟨it, hi9⟩ : ∃ it, its[k + 1]? = some it := ⟨_, List.getElem?_eq_getElem hk⟩
  obtain ⟨it1, hi1⟩ : ∃ it, its[k]? = some it := ⟨_, List.getElem?_eq_getElem (by omega)⟩
  obtain ⟨him, -⟩ := hit.2.2 (k + 1) it hi9
  obtain ⟨him1, -⟩ := hit.2.2 k it1 hi1
  rcases it with ⟨ia, ib⟩ | ⟨ia, ib, io, id9⟩ | ia | ia
  · have him : itM M.r (k + 1) (.inl (ia, ib)) := him
    refine lv_aload_n hx hb d_MD_penaltyAt_0 rfl (lv_at hl 0 rfl) ?_
    have h_1 : mF G A M (A 0) = .inr (10, [.int M.th, .ref (A 1), .ref (A 2), .ref (A 3), .ref (A 4), .ref (A 5), .int M.ct, .int M.ht, .int M.tp, .int M.gr, .ref (A 6), .ref (A 7), .ref (A 8), .ref (A 9), .ref (A 10), .ref (A 11), .ref (A 12), .int M.pg, .int M.bg, .int M.io, .int M.be, .int M.le, .long M.ln, .long M.dp, .ref (A 13), .long M.sh]) := mf_at hA9 M 0 (by decide)
    refine pz_get (ci := 10) (C := "PageMakerModel") (T := T_MD) (N := 26) hx hb htb in_MD hown hK hP (lm_in (by decide)) h_1 rfl 1 (by decide) (htb _ tw_683) (fun _ h9 => h9) rfl d_MD_penaltyAt_1 ?_
    refine lv_iload_n hx hb d_MD_penaltyAt_4 rfl (lv_at hl 1 rfl) ?_
    have h_2 : mF G A M (A 1) = .inl (cI G, 2000, .inl M.kd) := mf_at hA9 M 1 (by decide)
    refine pz_iald (j := (k + 1)) hx hb hK hP 0 (lm_in (by decide)) h_2 rfl (by omega) (by decide) d_MD_penaltyAt_5 ?_
    refine lv_topi (fun x3 ex3 => ?_)
    have ex3 : x3 = 0 := ex3.trans (him.1)
    subst ex3
    refine lv_iconst (v := 1) hx hb d_MD_penaltyAt_6 (by decide) ?_
    refine lv_icmp_ne (tgt := 29) hx hb d_MD_penaltyAt_7 (by decide) (fun _ => ?_) (fun c0 => absurd c0 (by decide))
    refine lv_aload_n hx hb d_MD_penaltyAt_29 rfl (lv_at hl 0 rfl) ?_
    refine pz_get (ci := 10) (C := "PageMakerModel") (T := T_MD) (N := 26) hx hb htb in_MD hown hK hP (lm_in (by decide)) h_1 rfl 1 (by decide) (htb _ tw_683) (fun _ h9 => h9) rfl d_MD_penaltyAt_30 ?_
    refine lv_iload_n hx hb d_MD_penaltyAt_33 rfl (lv_at hl 1 rfl) ?_
    refine pz_iald (j := (k + 1)) hx hb hK hP 0 (lm_in (by decide)) h_2 rfl (by omega) (by decide) d_MD_penaltyAt_34 ?_
    refine lv_topi (fun x4 ex4 => ?_)
    have ex4 : x4 = 0 := ex4.trans (him.1)
    subst ex4
    refine lv_iconst (v := 2) hx hb d_MD_penaltyAt_35 (by decide) ?_
    refine lv_icmp_ne (tgt := 69) hx hb d_MD_penaltyAt_36 (by decide) (fun _ => ?_) (fun c0 => absurd c0 (by decide))
    refine lv_aload_n hx hb d_MD_penaltyAt_69 rfl (lv_at hl 0 rfl) ?_
    refine pz_get (ci := 10) (C := "PageMakerModel") (T := T_MD) (N := 26) hx hb htb in_MD hown hK hP (lm_in (by decide)) h_1 rfl 1 (by decide) (htb _ tw_683) (fun _ h9 => h9) rfl d_MD_penaltyAt_70 ?_
    refine lv_iload_n hx hb d_MD_penaltyAt_73 rfl (lv_at hl 1 rfl) ?_
    refine pz_iald (j := (k + 1)) hx hb hK hP 0 (lm_in (by decide)) h_2 rfl (by omega) (by decide) d_MD_penaltyAt_74 ?_
    refine lv_topi (fun x5 ex5 => ?_)
    have ex5 : x5 = 0 := ex5.trans (him.1)
    subst ex5
    refine lv_iconst (v := 3) hx hb d_MD_penaltyAt_75 (by decide) ?_
    refine lv_icmp_ne (tgt := 88) hx hb d_MD_penaltyAt_76 (by decide) (fun _ => ?_) (fun c0 => absurd c0 (by decide))
    refine lv_sipush (v := 10000) hx hb d_MD_penaltyAt_88 (by decide) ?_
    exact pz_iretS hx hb hr rfl hlocks (by rw [m_at, hi9]) d_MD_penaltyAt_91
  · have him : itM M.r (k + 1) (.inr (.inl (ia, ib, io, id9))) := him
    rcases it1 with ⟨ja, jb⟩ | ⟨ja, jb, jo, jd9⟩ | ja | ja
    · refine lv_aload_n hx hb d_MD_penaltyAt_0 rfl (lv_at hl 0 rfl) ?_
      have h_6 : mF G A M (A 0) = .inr (10, [.int M.th, .ref (A 1), .ref (A 2), .ref (A 3), .ref (A 4), .ref (A 5), .int M.ct, .int M.ht, .int M.tp, .int M.gr, .ref (A 6), .ref (A 7), .ref (A 8), .ref (A 9), .ref (A 10), .ref (A 11), .ref (A 12), .int M.pg, .int M.bg, .int M.io, .int M.be, .int M.le, .long M.ln, .long M.dp, .ref (A 13), .long M.sh]) := mf_at hA9 M 0 (by decide)
      refine pz_get (ci := 10) (C := "PageMakerModel") (T := T_MD) (N := 26) hx hb htb in_MD hown hK hP (lm_in (by decide)) h_6 rfl 1 (by decide) (htb _ tw_683) (fun _ h9 => h9) rfl d_MD_penaltyAt_1 ?_
      refine lv_iload_n hx hb d_MD_penaltyAt_4 rfl (lv_at hl 1 rfl) ?_
      have h_7 : mF G A M (A 1) = .inl (cI G, 2000, .inl M.kd) := mf_at hA9 M 1 (by decide)
      refine pz_iald (j := (k + 1)) hx hb hK hP 0 (lm_in (by decide)) h_7 rfl (by omega) (by decide) d_MD_penaltyAt_5 ?_
      refine lv_topi (fun x8 ex8 => ?_)
      have ex8 : x8 = 1 := ex8.trans (him.1)
      subst ex8
      refine lv_iconst (v := 1) hx hb d_MD_penaltyAt_6 (by decide) ?_
      refine lv_icmp_ne (tgt := 29) hx hb d_MD_penaltyAt_7 (by decide) (fun c0 => absurd c0 (by decide)) (fun _ => ?_)
      refine lv_aload_n hx hb d_MD_penaltyAt_10 rfl (lv_at hl 0 rfl) ?_
      refine pz_get (ci := 10) (C := "PageMakerModel") (T := T_MD) (N := 26) hx hb htb in_MD hown hK hP (lm_in (by decide)) h_6 rfl 1 (by decide) (htb _ tw_683) (fun _ h9 => h9) rfl d_MD_penaltyAt_11 ?_
      refine lv_iload_n hx hb d_MD_penaltyAt_14 rfl (lv_at hl 1 rfl) ?_
      refine lv_iconst (v := 1) hx hb d_MD_penaltyAt_15 (by decide) ?_
      refine lv_isub hx hb d_MD_penaltyAt_16 ?_
      refine lv_topi (fun x9 ex9 => ?_)
      have ex9 : x9 = nI k := ex9.trans (nI_pred _)
      subst ex9
      refine pz_iald (j := k) hx hb hK hP 0 (lm_in (by decide)) h_7 rfl (by omega) (by decide) d_MD_penaltyAt_17 ?_
      refine lv_topi (fun x10 ex10 => ?_)
      have ex10 : x10 = 0 := ex10.trans (him1.1)
      subst ex10
      refine lv_if_ne (tgt := 25) hx hb d_MD_penaltyAt_18 (by decide) (fun c0 => absurd c0 (by decide)) (fun _ => ?_)
      refine lv_iconst (v := 0) hx hb d_MD_penaltyAt_21 (by decide) ?_
      refine lv_goto (tgt := 28) hx hb d_MD_penaltyAt_22 (by decide) ?_
      exact pz_iretS hx hb hr rfl hlocks (by rw [m_at, hi9, Nat.add_sub_cancel, hi1]) d_MD_penaltyAt_28
    · refine lv_aload_n hx hb d_MD_penaltyAt_0 rfl (lv_at hl 0 rfl) ?_
      have h_11 : mF G A M (A 0) = .inr (10, [.int M.th, .ref (A 1), .ref (A 2), .ref (A 3), .ref (A 4), .ref (A 5), .int M.ct, .int M.ht, .int M.tp, .int M.gr, .ref (A 6), .ref (A 7), .ref (A 8), .ref (A 9), .ref (A 10), .ref (A 11), .ref (A 12), .int M.pg, .int M.bg, .int M.io, .int M.be, .int M.le, .long M.ln, .long M.dp, .ref (A 13), .long M.sh]) := mf_at hA9 M 0 (by decide)
      refine pz_get (ci := 10) (C := "PageMakerModel") (T := T_MD) (N := 26) hx hb htb in_MD hown hK hP (lm_in (by decide)) h_11 rfl 1 (by decide) (htb _ tw_683) (fun _ h9 => h9) rfl d_MD_penaltyAt_1 ?_
      refine lv_iload_n hx hb d_MD_penaltyAt_4 rfl (lv_at hl 1 rfl) ?_
      have h_12 : mF G A M (A 1) = .inl (cI G, 2000, .inl M.kd) := mf_at hA9 M 1 (by decide)
      refine pz_iald (j := (k + 1)) hx hb hK hP 0 (lm_in (by decide)) h_12 rfl (by omega) (by decide) d_MD_penaltyAt_5 ?_
      refine lv_topi (fun x13 ex13 => ?_)
      have ex13 : x13 = 1 := ex13.trans (him.1)
      subst ex13
      refine lv_iconst (v := 1) hx hb d_MD_penaltyAt_6 (by decide) ?_
      refine lv_icmp_ne (tgt := 29) hx hb d_MD_penaltyAt_7 (by decide) (fun c0 => absurd c0 (by decide)) (fun _ => ?_)
      refine lv_aload_n hx hb d_MD_penaltyAt_10 rfl (lv_at hl 0 rfl) ?_
      refine pz_get (ci := 10) (C := "PageMakerModel") (T := T_MD) (N := 26) hx hb htb in_MD hown hK hP (lm_in (by decide)) h_11 rfl 1 (by decide) (htb _ tw_683) (fun _ h9 => h9) rfl d_MD_penaltyAt_11 ?_
      refine lv_iload_n hx hb d_MD_penaltyAt_14 rfl (lv_at hl 1 rfl) ?_
      refine lv_iconst (v := 1) hx hb d_MD_penaltyAt_15 (by decide) ?_
      refine lv_isub hx hb d_MD_penaltyAt_16 ?_
      refine lv_topi (fun x14 ex14 => ?_)
      have ex14 : x14 = nI k := ex14.trans (nI_pred _)
      subst ex14
      refine pz_iald (j := k) hx hb hK hP 0 (lm_in (by decide)) h_12 rfl (by omega) (by decide) d_MD_penaltyAt_17 ?_
      refine lv_topi (fun x15 ex15 => ?_)
      have ex15 : x15 = 1 := ex15.trans (him1.1)
      subst ex15
      refine lv_if_ne (tgt := 25) hx hb d_MD_penaltyAt_18 (by decide) (fun _ => ?_) (fun c0 => absurd c0 (by decide))
      refine lv_sipush (v := 10000) hx hb d_MD_penaltyAt_25 (by decide) ?_
      exact pz_iretS hx hb hr rfl hlocks (by rw [m_at, hi9, Nat.add_sub_cancel, hi1]) d_MD_penaltyAt_28
    · refine lv_aload_n hx hb d_MD_penaltyAt_0 rfl (lv_at hl 0 rfl) ?_
      have h_16 : mF G A M (A 0) = .inr (10, [.int M.th, .ref (A 1), .ref (A 2), .ref (A 3), .ref (A 4), .ref (A 5), .int M.ct, .int M.ht, .int M.tp, .int M.gr, .ref (A 6), .ref (A 7), .ref (A 8), .ref (A 9), .ref (A 10), .ref (A 11), .ref (A 12), .int M.pg, .int M.bg, .int M.io, .int M.be, .int M.le, .long M.ln, .long M.dp, .ref (A 13), .long M.sh]) := mf_at hA9 M 0 (by decide)
      refine pz_get (ci := 10) (C := "PageMakerModel") (T := T_MD) (N := 26) hx hb htb in_MD hown hK hP (lm_in (by decide)) h_16 rfl 1 (by decide) (htb _ tw_683) (fun _ h9 => h9) rfl d_MD_penaltyAt_1 ?_
      refine lv_iload_n hx hb d_MD_penaltyAt_4 rfl (lv_at hl 1 rfl) ?_
      have h_17 : mF G A M (A 1) = .inl (cI G, 2000, .inl M.kd) := mf_at hA9 M 1 (by decide)
      refine pz_iald (j := (k + 1)) hx hb hK hP 0 (lm_in (by decide)) h_17 rfl (by omega) (by decide) d_MD_penaltyAt_5 ?_
      refine lv_topi (fun x18 ex18 => ?_)
      have ex18 : x18 = 1 := ex18.trans (him.1)
      subst ex18
      refine lv_iconst (v := 1) hx hb d_MD_penaltyAt_6 (by decide) ?_
      refine lv_icmp_ne (tgt := 29) hx hb d_MD_penaltyAt_7 (by decide) (fun c0 => absurd c0 (by decide)) (fun _ => ?_)
      refine lv_aload_n hx hb d_MD_penaltyAt_10 rfl (lv_at hl 0 rfl) ?_
      refine pz_get (ci := 10) (C := "PageMakerModel") (T := T_MD) (N := 26) hx hb htb in_MD hown hK hP (lm_in (by decide)) h_16 rfl 1 (by decide) (htb _ tw_683) (fun _ h9 => h9) rfl d_MD_penaltyAt_11 ?_
      refine lv_iload_n hx hb d_MD_penaltyAt_14 rfl (lv_at hl 1 rfl) ?_
      refine lv_iconst (v := 1) hx hb d_MD_penaltyAt_15 (by decide) ?_
      refine lv_isub hx hb d_MD_penaltyAt_16 ?_
      refine lv_topi (fun x19 ex19 => ?_)
      have ex19 : x19 = nI k := ex19.trans (nI_pred _)
      subst ex19
      refine pz_iald (j := k) hx hb hK hP 0 (lm_in (by decide)) h_17 rfl (by omega) (by decide) d_MD_penaltyAt_17 ?_
      refine lv_topi (fun x20 ex20 => ?_)
      have ex20 : x20 = 2 := ex20.trans (him1.1)
      subst ex20
      refine lv_if_ne (tgt := 25) hx hb d_MD_penaltyAt_18 (by decide) (fun _ => ?_) (fun c0 => absurd c0 (by decide))
      refine lv_sipush (v := 10000) hx hb d_MD_penaltyAt_25 (by decide) ?_
      exact pz_iretS hx hb hr rfl hlocks (by rw [m_at, hi9, Nat.add_sub_cancel, hi1]) d_MD_penaltyAt_28
    · refine lv_aload_n hx hb d_MD_penaltyAt_0 rfl (lv_at hl 0 rfl) ?_
      have h_21 : mF G A M (A 0) = .inr (10, [.int M.th, .ref (A 1), .ref (A 2), .ref (A 3), .ref (A 4), .ref (A 5), .int M.ct, .int M.ht, .int M.tp, .int M.gr, .ref (A 6), .ref (A 7), .ref (A 8), .ref (A 9), .ref (A 10), .ref (A 11), .ref (A 12), .int M.pg, .int M.bg, .int M.io, .int M.be, .int M.le, .long M.ln, .long M.dp, .ref (A 13), .long M.sh]) := mf_at hA9 M 0 (by decide)
      refine pz_get (ci := 10) (C := "PageMakerModel") (T := T_MD) (N := 26) hx hb htb in_MD hown hK hP (lm_in (by decide)) h_21 rfl 1 (by decide) (htb _ tw_683) (fun _ h9 => h9) rfl d_MD_penaltyAt_1 ?_
      refine lv_iload_n hx hb d_MD_penaltyAt_4 rfl (lv_at hl 1 rfl) ?_
      have h_22 : mF G A M (A 1) = .inl (cI G, 2000, .inl M.kd) := mf_at hA9 M 1 (by decide)
      refine pz_iald (j := (k + 1)) hx hb hK hP 0 (lm_in (by decide)) h_22 rfl (by omega) (by decide) d_MD_penaltyAt_5 ?_
      refine lv_topi (fun x23 ex23 => ?_)
      have ex23 : x23 = 1 := ex23.trans (him.1)
      subst ex23
      refine lv_iconst (v := 1) hx hb d_MD_penaltyAt_6 (by decide) ?_
      refine lv_icmp_ne (tgt := 29) hx hb d_MD_penaltyAt_7 (by decide) (fun c0 => absurd c0 (by decide)) (fun _ => ?_)
      refine lv_aload_n hx hb d_MD_penaltyAt_10 rfl (lv_at hl 0 rfl) ?_
      refine pz_get (ci := 10) (C := "PageMakerModel") (T := T_MD) (N := 26) hx hb htb in_MD hown hK hP (lm_in (by decide)) h_21 rfl 1 (by decide) (htb _ tw_683) (fun _ h9 => h9) rfl d_MD_penaltyAt_11 ?_
      refine lv_iload_n hx hb d_MD_penaltyAt_14 rfl (lv_at hl 1 rfl) ?_
      refine lv_iconst (v := 1) hx hb d_MD_penaltyAt_15 (by decide) ?_
      refine lv_isub hx hb d_MD_penaltyAt_16 ?_
      refine lv_topi (fun x24 ex24 => ?_)
      have ex24 : x24 = nI k := ex24.trans (nI_pred _)
      subst ex24
      refine pz_iald (j := k) hx hb hK hP 0 (lm_in (by decide)) h_22 rfl (by omega) (by decide) d_MD_penaltyAt_17 ?_
      refine lv_topi (fun x25 ex25 => ?_)
      have ex25 : x25 = 3 := ex25.trans (him1.1)
      subst ex25
      refine lv_if_ne (tgt := 25) hx hb d_MD_penaltyAt_18 (by decide) (fun _ => ?_) (fun c0 => absurd c0 (by decide))
      refine lv_sipush (v := 10000) hx hb d_MD_penaltyAt_25 (by decide) ?_
      exact pz_iretS hx hb hr rfl hlocks (by rw [m_at, hi9, Nat.add_sub_cancel, hi1]) d_MD_penaltyAt_28
  · have him : itM M.r (k + 1) (.inr (.inr (.inl ia))) := him
    refine lv_aload_n hx hb d_MD_penaltyAt_0 rfl (lv_at hl 0 rfl) ?_
    have h_26 : mF G A M (A 0) = .inr (10, [.int M.th, .ref (A 1), .ref (A 2), .ref (A 3), .ref (A 4), .ref (A 5), .int M.ct, .int M.ht, .int M.tp, .int M.gr, .ref (A 6), .ref (A 7), .ref (A 8), .ref (A 9), .ref (A 10), .ref (A 11), .ref (A 12), .int M.pg, .int M.bg, .int M.io, .int M.be, .int M.le, .long M.ln, .long M.dp, .ref (A 13), .long M.sh]) := mf_at hA9 M 0 (by decide)
    refine pz_get (ci := 10) (C := "PageMakerModel") (T := T_MD) (N := 26) hx hb htb in_MD hown hK hP (lm_in (by decide)) h_26 rfl 1 (by decide) (htb _ tw_683) (fun _ h9 => h9) rfl d_MD_penaltyAt_1 ?_
    refine lv_iload_n hx hb d_MD_penaltyAt_4 rfl (lv_at hl 1 rfl) ?_
    have h_27 : mF G A M (A 1) = .inl (cI G, 2000, .inl M.kd) := mf_at hA9 M 1 (by decide)
    refine pz_iald (j := (k + 1)) hx hb hK hP 0 (lm_in (by decide)) h_27 rfl (by omega) (by decide) d_MD_penaltyAt_5 ?_
    refine lv_topi (fun x28 ex28 => ?_)
    have ex28 : x28 = 2 := ex28.trans (him.1)
    subst ex28
    refine lv_iconst (v := 1) hx hb d_MD_penaltyAt_6 (by decide) ?_
    refine lv_icmp_ne (tgt := 29) hx hb d_MD_penaltyAt_7 (by decide) (fun _ => ?_) (fun c0 => absurd c0 (by decide))
    refine lv_aload_n hx hb d_MD_penaltyAt_29 rfl (lv_at hl 0 rfl) ?_
    refine pz_get (ci := 10) (C := "PageMakerModel") (T := T_MD) (N := 26) hx hb htb in_MD hown hK hP (lm_in (by decide)) h_26 rfl 1 (by decide) (htb _ tw_683) (fun _ h9 => h9) rfl d_MD_penaltyAt_30 ?_
    refine lv_iload_n hx hb d_MD_penaltyAt_33 rfl (lv_at hl 1 rfl) ?_
    refine pz_iald (j := (k + 1)) hx hb hK hP 0 (lm_in (by decide)) h_27 rfl (by omega) (by decide) d_MD_penaltyAt_34 ?_
    refine lv_topi (fun x29 ex29 => ?_)
    have ex29 : x29 = 2 := ex29.trans (him.1)
    subst ex29
    refine lv_iconst (v := 2) hx hb d_MD_penaltyAt_35 (by decide) ?_
    refine lv_icmp_ne (tgt := 69) hx hb d_MD_penaltyAt_36 (by decide) (fun c0 => absurd c0 (by decide)) (fun _ => ?_)
    refine lv_iload_n hx hb d_MD_penaltyAt_39 rfl (lv_at hl 1 rfl) ?_
    refine lv_iconst (v := 1) hx hb d_MD_penaltyAt_40 (by decide) ?_
    refine lv_iadd hx hb d_MD_penaltyAt_41 ?_
    refine lv_topi (fun x30 ex30 => ?_)
    have ex30 : x30 = nI (k + 2) := ex30.trans (nI_1 _)
    subst ex30
    refine lv_aload_n hx hb d_MD_penaltyAt_42 rfl (lv_at hl 0 rfl) ?_
    refine pz_get (ci := 10) (C := "PageMakerModel") (T := T_MD) (N := 26) hx hb htb in_MD hown hK hP (lm_in (by decide)) h_26 rfl 6 (by decide) (htb _ tw_688) (fun _ h9 => h9) rfl d_MD_penaltyAt_43 ?_
    refine lv_topi (fun x31 ex31 => ?_)
    have ex31 : x31 = nI its.length := ex31.trans (hit.1)
    subst ex31
    refine lv_icmp_ge (tgt := 65) hx hb d_MD_penaltyAt_46 (by decide) (fun c_32 => ?_) (fun c_32 => ?_)
    · have hno : its[k + 1 + 1]? = none := List.getElem?_eq_none ((nI_leI (by omega) (by omega)).mp c_32)
      refine lv_sipush (v := 10000) hx hb d_MD_penaltyAt_65 (by decide) ?_
      exact pz_iretS hx hb hr rfl hlocks (by rw [m_at, hi9, hno]) d_MD_penaltyAt_68
    · have hk2 : k + 2 < its.length := Nat.lt_of_not_le (fun h9 => c_32 (nI_le h9 (by omega)))
      obtain ⟨it2, hi2⟩ : ∃ it, its[k + 1 + 1]? = some it := ⟨_, List.getElem?_eq_getElem hk2⟩
      obtain ⟨him2, -⟩ := hit.2.2 (k + 2) it2 hi2
      rcases it2 with ⟨ja, jb⟩ | ⟨ja, jb, jo, jd9⟩ | ja | ja
      · refine lv_aload_n hx hb d_MD_penaltyAt_49 rfl (lv_at hl 0 rfl) ?_
        refine pz_get (ci := 10) (C := "PageMakerModel") (T := T_MD) (N := 26) hx hb htb in_MD hown hK hP (lm_in (by decide)) h_26 rfl 1 (by decide) (htb _ tw_683) (fun _ h9 => h9) rfl d_MD_penaltyAt_50 ?_
        refine lv_iload_n hx hb d_MD_penaltyAt_53 rfl (lv_at hl 1 rfl) ?_
        refine lv_iconst (v := 1) hx hb d_MD_penaltyAt_54 (by decide) ?_
        refine lv_iadd hx hb d_MD_penaltyAt_55 ?_
        refine lv_topi (fun x33 ex33 => ?_)
        have ex33 : x33 = nI (k + 2) := ex33.trans (nI_1 _)
        subst ex33
        refine pz_iald (j := (k + 2)) hx hb hK hP 0 (lm_in (by decide)) h_27 rfl (by omega) (by decide) d_MD_penaltyAt_56 ?_
        refine lv_topi (fun x34 ex34 => ?_)
        have ex34 : x34 = 0 := ex34.trans (him2.1)
        subst ex34
        refine lv_iconst (v := 1) hx hb d_MD_penaltyAt_57 (by decide) ?_
        refine lv_icmp_ne (tgt := 65) hx hb d_MD_penaltyAt_58 (by decide) (fun _ => ?_) (fun c0 => absurd c0 (by decide))
        refine lv_sipush (v := 10000) hx hb d_MD_penaltyAt_65 (by decide) ?_
        exact pz_iretS hx hb hr rfl hlocks (by rw [m_at, hi9, hi2]) d_MD_penaltyAt_68
      · refine lv_aload_n hx hb d_MD_penaltyAt_49 rfl (lv_at hl 0 rfl) ?_
        refine pz_get (ci := 10) (C := "PageMakerModel") (T := T_MD) (N := 26) hx hb htb in_MD hown hK hP (lm_in (by decide)) h_26 rfl 1 (by decide) (htb _ tw_683) (fun _ h9 => h9) rfl d_MD_penaltyAt_50 ?_
        refine lv_iload_n hx hb d_MD_penaltyAt_53 rfl (lv_at hl 1 rfl) ?_
        refine lv_iconst (v := 1) hx hb d_MD_penaltyAt_54 (by decide) ?_
        refine lv_iadd hx hb d_MD_penaltyAt_55 ?_
        refine lv_topi (fun x35 ex35 => ?_)
        have ex35 : x35 = nI (k + 2) := ex35.trans (nI_1 _)
        subst ex35
        refine pz_iald (j := (k + 2)) hx hb hK hP 0 (lm_in (by decide)) h_27 rfl (by omega) (by decide) d_MD_penaltyAt_56 ?_
        refine lv_topi (fun x36 ex36 => ?_)
        have ex36 : x36 = 1 := ex36.trans (him2.1)
        subst ex36
        refine lv_iconst (v := 1) hx hb d_MD_penaltyAt_57 (by decide) ?_
        refine lv_icmp_ne (tgt := 65) hx hb d_MD_penaltyAt_58 (by decide) (fun c0 => absurd c0 (by decide)) (fun _ => ?_)
        refine lv_iconst (v := 0) hx hb d_MD_penaltyAt_61 (by decide) ?_
        refine lv_goto (tgt := 68) hx hb d_MD_penaltyAt_62 (by decide) ?_
        exact pz_iretS hx hb hr rfl hlocks (by rw [m_at, hi9, hi2]) d_MD_penaltyAt_68
      · refine lv_aload_n hx hb d_MD_penaltyAt_49 rfl (lv_at hl 0 rfl) ?_
        refine pz_get (ci := 10) (C := "PageMakerModel") (T := T_MD) (N := 26) hx hb htb in_MD hown hK hP (lm_in (by decide)) h_26 rfl 1 (by decide) (htb _ tw_683) (fun _ h9 => h9) rfl d_MD_penaltyAt_50 ?_
        refine lv_iload_n hx hb d_MD_penaltyAt_53 rfl (lv_at hl 1 rfl) ?_
        refine lv_iconst (v := 1) hx hb d_MD_penaltyAt_54 (by decide) ?_
        refine lv_iadd hx hb d_MD_penaltyAt_55 ?_
        refine lv_topi (fun x37 ex37 => ?_)
        have ex37 : x37 = nI (k + 2) := ex37.trans (nI_1 _)
        subst ex37
        refine pz_iald (j := (k + 2)) hx hb hK hP 0 (lm_in (by decide)) h_27 rfl (by omega) (by decide) d_MD_penaltyAt_56 ?_
        refine lv_topi (fun x38 ex38 => ?_)
        have ex38 : x38 = 2 := ex38.trans (him2.1)
        subst ex38
        refine lv_iconst (v := 1) hx hb d_MD_penaltyAt_57 (by decide) ?_
        refine lv_icmp_ne (tgt := 65) hx hb d_MD_penaltyAt_58 (by decide) (fun _ => ?_) (fun c0 => absurd c0 (by decide))
        refine lv_sipush (v := 10000) hx hb d_MD_penaltyAt_65 (by decide) ?_
        exact pz_iretS hx hb hr rfl hlocks (by rw [m_at, hi9, hi2]) d_MD_penaltyAt_68
      · refine lv_aload_n hx hb d_MD_penaltyAt_49 rfl (lv_at hl 0 rfl) ?_
        refine pz_get (ci := 10) (C := "PageMakerModel") (T := T_MD) (N := 26) hx hb htb in_MD hown hK hP (lm_in (by decide)) h_26 rfl 1 (by decide) (htb _ tw_683) (fun _ h9 => h9) rfl d_MD_penaltyAt_50 ?_
        refine lv_iload_n hx hb d_MD_penaltyAt_53 rfl (lv_at hl 1 rfl) ?_
        refine lv_iconst (v := 1) hx hb d_MD_penaltyAt_54 (by decide) ?_
        refine lv_iadd hx hb d_MD_penaltyAt_55 ?_
        refine lv_topi (fun x39 ex39 => ?_)
        have ex39 : x39 = nI (k + 2) := ex39.trans (nI_1 _)
        subst ex39
        refine pz_iald (j := (k + 2)) hx hb hK hP 0 (lm_in (by decide)) h_27 rfl (by omega) (by decide) d_MD_penaltyAt_56 ?_
        refine lv_topi (fun x40 ex40 => ?_)
        have ex40 : x40 = 3 := ex40.trans (him2.1)
        subst ex40
        refine lv_iconst (v := 1) hx hb d_MD_penaltyAt_57 (by decide) ?_
        refine lv_icmp_ne (tgt := 65) hx hb d_MD_penaltyAt_58 (by decide) (fun _ => ?_) (fun c0 => absurd c0 (by decide))
        refine lv_sipush (v := 10000) hx hb d_MD_penaltyAt_65 (by decide) ?_
        exact pz_iretS hx hb hr rfl hlocks (by rw [m_at, hi9, hi2]) d_MD_penaltyAt_68
  · have him : itM M.r (k + 1) (.inr (.inr (.inr ia))) := him
    refine lv_aload_n hx hb d_MD_penaltyAt_0 rfl (lv_at hl 0 rfl) ?_
    have h_41 : mF G A M (A 0) = .inr (10, [.int M.th, .ref (A 1), .ref (A 2), .ref (A 3), .ref (A 4), .ref (A 5), .int M.ct, .int M.ht, .int M.tp, .int M.gr, .ref (A 6), .ref (A 7), .ref (A 8), .ref (A 9), .ref (A 10), .ref (A 11), .ref (A 12), .int M.pg, .int M.bg, .int M.io, .int M.be, .int M.le, .long M.ln, .long M.dp, .ref (A 13), .long M.sh]) := mf_at hA9 M 0 (by decide)
    refine pz_get (ci := 10) (C := "PageMakerModel") (T := T_MD) (N := 26) hx hb htb in_MD hown hK hP (lm_in (by decide)) h_41 rfl 1 (by decide) (htb _ tw_683) (fun _ h9 => h9) rfl d_MD_penaltyAt_1 ?_
    refine lv_iload_n hx hb d_MD_penaltyAt_4 rfl (lv_at hl 1 rfl) ?_
    have h_42 : mF G A M (A 1) = .inl (cI G, 2000, .inl M.kd) := mf_at hA9 M 1 (by decide)
    refine pz_iald (j := (k + 1)) hx hb hK hP 0 (lm_in (by decide)) h_42 rfl (by omega) (by decide) d_MD_penaltyAt_5 ?_
    refine lv_topi (fun x43 ex43 => ?_)
    have ex43 : x43 = 3 := ex43.trans (him.1)
    subst ex43
    refine lv_iconst (v := 1) hx hb d_MD_penaltyAt_6 (by decide) ?_
    refine lv_icmp_ne (tgt := 29) hx hb d_MD_penaltyAt_7 (by decide) (fun _ => ?_) (fun c0 => absurd c0 (by decide))
    refine lv_aload_n hx hb d_MD_penaltyAt_29 rfl (lv_at hl 0 rfl) ?_
    refine pz_get (ci := 10) (C := "PageMakerModel") (T := T_MD) (N := 26) hx hb htb in_MD hown hK hP (lm_in (by decide)) h_41 rfl 1 (by decide) (htb _ tw_683) (fun _ h9 => h9) rfl d_MD_penaltyAt_30 ?_
    refine lv_iload_n hx hb d_MD_penaltyAt_33 rfl (lv_at hl 1 rfl) ?_
    refine pz_iald (j := (k + 1)) hx hb hK hP 0 (lm_in (by decide)) h_42 rfl (by omega) (by decide) d_MD_penaltyAt_34 ?_
    refine lv_topi (fun x44 ex44 => ?_)
    have ex44 : x44 = 3 := ex44.trans (him.1)
    subst ex44
    refine lv_iconst (v := 2) hx hb d_MD_penaltyAt_35 (by decide) ?_
    refine lv_icmp_ne (tgt := 69) hx hb d_MD_penaltyAt_36 (by decide) (fun _ => ?_) (fun c0 => absurd c0 (by decide))
    refine lv_aload_n hx hb d_MD_penaltyAt_69 rfl (lv_at hl 0 rfl) ?_
    refine pz_get (ci := 10) (C := "PageMakerModel") (T := T_MD) (N := 26) hx hb htb in_MD hown hK hP (lm_in (by decide)) h_41 rfl 1 (by decide) (htb _ tw_683) (fun _ h9 => h9) rfl d_MD_penaltyAt_70 ?_
    refine lv_iload_n hx hb d_MD_penaltyAt_73 rfl (lv_at hl 1 rfl) ?_
    refine pz_iald (j := (k + 1)) hx hb hK hP 0 (lm_in (by decide)) h_42 rfl (by omega) (by decide) d_MD_penaltyAt_74 ?_
    refine lv_topi (fun x45 ex45 => ?_)
    have ex45 : x45 = 3 := ex45.trans (him.1)
    subst ex45
    refine lv_iconst (v := 3) hx hb d_MD_penaltyAt_75 (by decide) ?_
    refine lv_icmp_ne (tgt := 88) hx hb d_MD_penaltyAt_76 (by decide) (fun c0 => absurd c0 (by decide)) (fun _ => ?_)
    refine lv_aload_n hx hb d_MD_penaltyAt_79 rfl (lv_at hl 0 rfl) ?_
    refine pz_get (ci := 10) (C := "PageMakerModel") (T := T_MD) (N := 26) hx hb htb in_MD hown hK hP (lm_in (by decide)) h_41 rfl 2 (by decide) (htb _ tw_684) (fun _ h9 => h9) rfl d_MD_penaltyAt_80 ?_
    refine lv_iload_n hx hb d_MD_penaltyAt_83 rfl (lv_at hl 1 rfl) ?_
    have h_46 : mF G A M (A 2) = .inl (cI G, 2000, .inl M.on) := mf_at hA9 M 2 (by decide)
    refine pz_iald (j := (k + 1)) hx hb hK hP 0 (lm_in (by decide)) h_46 rfl (by omega) (by decide) d_MD_penaltyAt_84 ?_
    refine lv_topi (fun x47 ex47 => ?_)
    have ex47 : x47 = ia := ex47.trans (him.2)
    rw [ex47]
    refine lv_goto (tgt := 91) hx hb d_MD_penaltyAt_85 (by decide) ?_
    exact pz_iretS hx hb hr rfl hlocks (by rw [m_at, hi9]) d_MD_penaltyAt_91
set_option maxHeartbeats 4000000 in
set_option maxRecDepth 100000 in
/-- model: orderOf -/
theorem c_MD_orderOf (l : Launch) (G : gG) (A : Nat → Nat) (hA9 : mJn A) (M : MS) (sz : Nat) (ex : Int64)  : sI l y_MD_orderOf w_MD_orderOf ({ frames := 0, cells := 0, slots := 0, locals := 0 }) G (LM A) (mF G A M) sz [.ref (A 0), .long ex] (fun r => r = k_ord M.g ex) := by
  refine pz_met (cc := prog_12_method_24_code) (maxL := 5) (ret := (some .int)) (by decide) rfl (Nat.le_of_ble_eq_true rfl) ?_
  intro p e s m below meth c ls hx hb hr hml hts hown hlocks hin hsz hK hP hD hS hA hz hl
  have htb : ∀ w ∈ TB, w.before _ s = true := fun w h => hts w (List.mem_cons_of_mem _ h)
  have hl : lv_has ls 5 [(0, .ref (A 0)), (1, .long ex)] := hl
  refine lv_iconst (v := 0) hx hb d_MD_orderOf_0 (by decide) ?_
  refine lv_istore_n (lv' := [(3, .int 0), (0, .ref (A 0)), (1, .long ex)]) hx hb d_MD_orderOf_1 rfl hl (by decide) rfl (fun ls hl => ?_)
  refine lv_iconst (v := 1) hx hb d_MD_orderOf_2 (by decide) ?_
  refine lv_istore (lv' := [(4, .int 1), (3, .int 0), (0, .ref (A 0)), (1, .long ex)]) hx hb d_MD_orderOf_3 hl (by decide) rfl (fun ls hl => ?_)
  refine lv_iload hx hb d_MD_orderOf_5 (lv_at hl 0 rfl) ?_
  refine lv_iconst (v := 4) hx hb d_MD_orderOf_7 (by decide) ?_
  refine lv_icmp_ge (tgt := 42) hx hb d_MD_orderOf_8 (by decide) (fun c0 => absurd c0 (by decide)) (fun _ => ?_)
  refine lv_lload_n hx hb d_MD_orderOf_11 rfl (lv_at hl 3 rfl) ?_
  refine lv_lconst (v := 0) hx hb d_MD_orderOf_12 rfl ?_
  refine pz_lle (tgt := 42) hx hb d_MD_orderOf_13 d_MD_orderOf_14 (by decide) (fun c_1 => ?_) (fun c_1 => ?_)
  · refine lv_iload_n hx hb d_MD_orderOf_42 rfl (lv_at hl 1 rfl) ?_
    exact pz_iretS hx hb hr rfl hlocks (by rw [k_ord, if_neg (k_nlt c_1)]) d_MD_orderOf_43
  · refine lv_aload_n hx hb d_MD_orderOf_17 rfl (lv_at hl 2 rfl) ?_
    have h_2 : mF G A M (A 0) = .inr (10, [.int M.th, .ref (A 1), .ref (A 2), .ref (A 3), .ref (A 4), .ref (A 5), .int M.ct, .int M.ht, .int M.tp, .int M.gr, .ref (A 6), .ref (A 7), .ref (A 8), .ref (A 9), .ref (A 10), .ref (A 11), .ref (A 12), .int M.pg, .int M.bg, .int M.io, .int M.be, .int M.le, .long M.ln, .long M.dp, .ref (A 13), .long M.sh]) := mf_at hA9 M 0 (by decide)
    refine pz_get (ci := 10) (C := "PageMakerModel") (T := T_MD) (N := 26) hx hb htb in_MD hown hK hP (lm_in (by decide)) h_2 rfl 24 (by decide) (htb _ tw_706) (fun _ h9 => h9) rfl d_MD_orderOf_18 ?_
    refine lv_iload hx hb d_MD_orderOf_21 (lv_at hl 0 rfl) ?_
    have h_3 : mF G A M (A 13) = .inl (cJ G, 4, .inr (.inl M.g)) := mf_at hA9 M 13 (by decide)
    refine pz_laldN (j := 1) hx hb hK hP 1 (lm_in (by decide)) h_3 rfl (by decide) (by decide) d_MD_orderOf_23 ?_
    refine lv_lconst (v := 0) hx hb d_MD_orderOf_24 rfl ?_
    refine pz_lle (tgt := 34) hx hb d_MD_orderOf_25 d_MD_orderOf_26 (by decide) (fun c_4 => ?_) (fun c_4 => ?_)
    · refine lv_iload_n hx hb d_MD_orderOf_34 rfl (lv_at hl 1 rfl) ?_
      refine lv_istore_n (lv' := [(3, .int 0), (4, .int 1), (0, .ref (A 0)), (1, .long ex)]) hx hb d_MD_orderOf_35 rfl hl (by decide) rfl (fun ls hl => ?_)
      refine lv_iinc (v := 2) (lv' := [(4, .int 2), (3, .int 0), (0, .ref (A 0)), (1, .long ex)]) hx hb d_MD_orderOf_36 hl (k := 1) rfl (by decide) (by decide) rfl (fun ls hl => ?_)
      refine lv_goto (tgt := 5) hx hb d_MD_orderOf_39 (by decide) ?_
      refine lv_iload hx hb d_MD_orderOf_5 (lv_at hl 0 rfl) ?_
      refine lv_iconst (v := 4) hx hb d_MD_orderOf_7 (by decide) ?_
      refine lv_icmp_ge (tgt := 42) hx hb d_MD_orderOf_8 (by decide) (fun c0 => absurd c0 (by decide)) (fun _ => ?_)
      refine lv_lload_n hx hb d_MD_orderOf_11 rfl (lv_at hl 3 rfl) ?_
      refine lv_lconst (v := 0) hx hb d_MD_orderOf_12 rfl ?_
      refine pz_lle (tgt := 42) hx hb d_MD_orderOf_13 d_MD_orderOf_14 (by decide) (fun c0 => absurd c0 (k_nlt' c_1)) (fun _ => ?_)
      refine lv_aload_n hx hb d_MD_orderOf_17 rfl (lv_at hl 2 rfl) ?_
      refine pz_get (ci := 10) (C := "PageMakerModel") (T := T_MD) (N := 26) hx hb htb in_MD hown hK hP (lm_in (by decide)) h_2 rfl 24 (by decide) (htb _ tw_706) (fun _ h9 => h9) rfl d_MD_orderOf_18 ?_
      refine lv_iload hx hb d_MD_orderOf_21 (lv_at hl 0 rfl) ?_
      refine pz_laldN (j := 2) hx hb hK hP 1 (lm_in (by decide)) h_3 rfl (by decide) (by decide) d_MD_orderOf_23 ?_
      refine lv_lconst (v := 0) hx hb d_MD_orderOf_24 rfl ?_
      refine pz_lle (tgt := 34) hx hb d_MD_orderOf_25 d_MD_orderOf_26 (by decide) (fun c_5 => ?_) (fun c_5 => ?_)
      · refine lv_iload_n hx hb d_MD_orderOf_34 rfl (lv_at hl 1 rfl) ?_
        refine lv_istore_n (lv' := [(3, .int 0), (4, .int 2), (0, .ref (A 0)), (1, .long ex)]) hx hb d_MD_orderOf_35 rfl hl (by decide) rfl (fun ls hl => ?_)
        refine lv_iinc (v := 3) (lv' := [(4, .int 3), (3, .int 0), (0, .ref (A 0)), (1, .long ex)]) hx hb d_MD_orderOf_36 hl (k := 1) rfl (by decide) (by decide) rfl (fun ls hl => ?_)
        refine lv_goto (tgt := 5) hx hb d_MD_orderOf_39 (by decide) ?_
        refine lv_iload hx hb d_MD_orderOf_5 (lv_at hl 0 rfl) ?_
        refine lv_iconst (v := 4) hx hb d_MD_orderOf_7 (by decide) ?_
        refine lv_icmp_ge (tgt := 42) hx hb d_MD_orderOf_8 (by decide) (fun c0 => absurd c0 (by decide)) (fun _ => ?_)
        refine lv_lload_n hx hb d_MD_orderOf_11 rfl (lv_at hl 3 rfl) ?_
        refine lv_lconst (v := 0) hx hb d_MD_orderOf_12 rfl ?_
        refine pz_lle (tgt := 42) hx hb d_MD_orderOf_13 d_MD_orderOf_14 (by decide) (fun c0 => absurd c0 (k_nlt' c_1)) (fun _ => ?_)
        refine lv_aload_n hx hb d_MD_orderOf_17 rfl (lv_at hl 2 rfl) ?_
        refine pz_get (ci := 10) (C := "PageMakerModel") (T := T_MD) (N := 26) hx hb htb in_MD hown hK hP (lm_in (by decide)) h_2 rfl 24 (by decide) (htb _ tw_706) (fun _ h9 => h9) rfl d_MD_orderOf_18 ?_
        refine lv_iload hx hb d_MD_orderOf_21 (lv_at hl 0 rfl) ?_
        refine pz_laldN (j := 3) hx hb hK hP 1 (lm_in (by decide)) h_3 rfl (by decide) (by decide) d_MD_orderOf_23 ?_
        refine lv_lconst (v := 0) hx hb d_MD_orderOf_24 rfl ?_
        refine pz_lle (tgt := 34) hx hb d_MD_orderOf_25 d_MD_orderOf_26 (by decide) (fun c_6 => ?_) (fun c_6 => ?_)
        · refine lv_iload_n hx hb d_MD_orderOf_34 rfl (lv_at hl 1 rfl) ?_
          refine lv_istore_n (lv' := [(3, .int 0), (4, .int 3), (0, .ref (A 0)), (1, .long ex)]) hx hb d_MD_orderOf_35 rfl hl (by decide) rfl (fun ls hl => ?_)
          refine lv_iinc (v := 4) (lv' := [(4, .int 4), (3, .int 0), (0, .ref (A 0)), (1, .long ex)]) hx hb d_MD_orderOf_36 hl (k := 1) rfl (by decide) (by decide) rfl (fun ls hl => ?_)
          refine lv_goto (tgt := 5) hx hb d_MD_orderOf_39 (by decide) ?_
          refine lv_iload hx hb d_MD_orderOf_5 (lv_at hl 0 rfl) ?_
          refine lv_iconst (v := 4) hx hb d_MD_orderOf_7 (by decide) ?_
          refine lv_icmp_ge (tgt := 42) hx hb d_MD_orderOf_8 (by decide) (fun _ => ?_) (fun c0 => absurd c0 (by decide))
          refine lv_iload_n hx hb d_MD_orderOf_42 rfl (lv_at hl 1 rfl) ?_
          exact pz_iretS hx hb hr rfl hlocks (by rw [k_ord, if_pos c_1, k_go, if_neg (k_nlt c_6), if_neg (k_nlt c_5), if_neg (k_nlt c_4)]) d_MD_orderOf_43
        · refine lv_iload hx hb d_MD_orderOf_29 (lv_at hl 0 rfl) ?_
          refine lv_goto (tgt := 35) hx hb d_MD_orderOf_31 (by decide) ?_
          refine lv_istore_n (lv' := [(3, .int 3), (4, .int 3), (0, .ref (A 0)), (1, .long ex)]) hx hb d_MD_orderOf_35 rfl hl (by decide) rfl (fun ls hl => ?_)
          refine lv_iinc (v := 4) (lv' := [(4, .int 4), (3, .int 3), (0, .ref (A 0)), (1, .long ex)]) hx hb d_MD_orderOf_36 hl (k := 1) rfl (by decide) (by decide) rfl (fun ls hl => ?_)
          refine lv_goto (tgt := 5) hx hb d_MD_orderOf_39 (by decide) ?_
          refine lv_iload hx hb d_MD_orderOf_5 (lv_at hl 0 rfl) ?_
          refine lv_iconst (v := 4) hx hb d_MD_orderOf_7 (by decide) ?_
          refine lv_icmp_ge (tgt := 42) hx hb d_MD_orderOf_8 (by decide) (fun _ => ?_) (fun c0 => absurd c0 (by decide))
          refine lv_iload_n hx hb d_MD_orderOf_42 rfl (lv_at hl 1 rfl) ?_
          exact pz_iretS hx hb hr rfl hlocks (by rw [k_ord, if_pos c_1, k_go, if_pos c_6]) d_MD_orderOf_43
      · refine lv_iload hx hb d_MD_orderOf_29 (lv_at hl 0 rfl) ?_
        refine lv_goto (tgt := 35) hx hb d_MD_orderOf_31 (by decide) ?_
        refine lv_istore_n (lv' := [(3, .int 2), (4, .int 2), (0, .ref (A 0)), (1, .long ex)]) hx hb d_MD_orderOf_35 rfl hl (by decide) rfl (fun ls hl => ?_)
        refine lv_iinc (v := 3) (lv' := [(4, .int 3), (3, .int 2), (0, .ref (A 0)), (1, .long ex)]) hx hb d_MD_orderOf_36 hl (k := 1) rfl (by decide) (by decide) rfl (fun ls hl => ?_)
        refine lv_goto (tgt := 5) hx hb d_MD_orderOf_39 (by decide) ?_
        refine lv_iload hx hb d_MD_orderOf_5 (lv_at hl 0 rfl) ?_
        refine lv_iconst (v := 4) hx hb d_MD_orderOf_7 (by decide) ?_
        refine lv_icmp_ge (tgt := 42) hx hb d_MD_orderOf_8 (by decide) (fun c0 => absurd c0 (by decide)) (fun _ => ?_)
        refine lv_lload_n hx hb d_MD_orderOf_11 rfl (lv_at hl 3 rfl) ?_
        refine lv_lconst (v := 0) hx hb d_MD_orderOf_12 rfl ?_
        refine pz_lle (tgt := 42) hx hb d_MD_orderOf_13 d_MD_orderOf_14 (by decide) (fun c0 => absurd c0 (k_nlt' c_1)) (fun _ => ?_)
        refine lv_aload_n hx hb d_MD_orderOf_17 rfl (lv_at hl 2 rfl) ?_
        refine pz_get (ci := 10) (C := "PageMakerModel") (T := T_MD) (N := 26) hx hb htb in_MD hown hK hP (lm_in (by decide)) h_2 rfl 24 (by decide) (htb _ tw_706) (fun _ h9 => h9) rfl d_MD_orderOf_18 ?_
        refine lv_iload hx hb d_MD_orderOf_21 (lv_at hl 0 rfl) ?_
        refine pz_laldN (j := 3) hx hb hK hP 1 (lm_in (by decide)) h_3 rfl (by decide) (by decide) d_MD_orderOf_23 ?_
        refine lv_lconst (v := 0) hx hb d_MD_orderOf_24 rfl ?_
        refine pz_lle (tgt := 34) hx hb d_MD_orderOf_25 d_MD_orderOf_26 (by decide) (fun c_7 => ?_) (fun c_7 => ?_)
        · refine lv_iload_n hx hb d_MD_orderOf_34 rfl (lv_at hl 1 rfl) ?_
          refine lv_istore_n (lv' := [(3, .int 2), (4, .int 3), (0, .ref (A 0)), (1, .long ex)]) hx hb d_MD_orderOf_35 rfl hl (by decide) rfl (fun ls hl => ?_)
          refine lv_iinc (v := 4) (lv' := [(4, .int 4), (3, .int 2), (0, .ref (A 0)), (1, .long ex)]) hx hb d_MD_orderOf_36 hl (k := 1) rfl (by decide) (by decide) rfl (fun ls hl => ?_)
          refine lv_goto (tgt := 5) hx hb d_MD_orderOf_39 (by decide) ?_
          refine lv_iload hx hb d_MD_orderOf_5 (lv_at hl 0 rfl) ?_
          refine lv_iconst (v := 4) hx hb d_MD_orderOf_7 (by decide) ?_
          refine lv_icmp_ge (tgt := 42) hx hb d_MD_orderOf_8 (by decide) (fun _ => ?_) (fun c0 => absurd c0 (by decide))
          refine lv_iload_n hx hb d_MD_orderOf_42 rfl (lv_at hl 1 rfl) ?_
          exact pz_iretS hx hb hr rfl hlocks (by rw [k_ord, if_pos c_1, k_go, if_neg (k_nlt c_7), if_pos c_5]) d_MD_orderOf_43
        · refine lv_iload hx hb d_MD_orderOf_29 (lv_at hl 0 rfl) ?_
          refine lv_goto (tgt := 35) hx hb d_MD_orderOf_31 (by decide) ?_
          refine lv_istore_n (lv' := [(3, .int 3), (4, .int 3), (0, .ref (A 0)), (1, .long ex)]) hx hb d_MD_orderOf_35 rfl hl (by decide) rfl (fun ls hl => ?_)
          refine lv_iinc (v := 4) (lv' := [(4, .int 4), (3, .int 3), (0, .ref (A 0)), (1, .long ex)]) hx hb d_MD_orderOf_36 hl (k := 1) rfl (by decide) (by decide) rfl (fun ls hl => ?_)
          refine lv_goto (tgt := 5) hx hb d_MD_orderOf_39 (by decide) ?_
          refine lv_iload hx hb d_MD_orderOf_5 (lv_at hl 0 rfl) ?_
          refine lv_iconst (v := 4) hx hb d_MD_orderOf_7 (by decide) ?_
          refine lv_icmp_ge (tgt := 42) hx hb d_MD_orderOf_8 (by decide) (fun _ => ?_) (fun c0 => absurd c0 (by decide))
          refine lv_iload_n hx hb d_MD_orderOf_42 rfl (lv_at hl 1 rfl) ?_
          exact pz_iretS hx hb hr rfl hlocks (by rw [k_ord, if_pos c_1, k_go, if_pos c_7]) d_MD_orderOf_43
    · refine lv_iload hx hb d_MD_orderOf_29 (lv_at hl 0 rfl) ?_
      refine lv_goto (tgt := 35) hx hb d_MD_orderOf_31 (by decide) ?_
      refine lv_istore_n (lv' := [(3, .int 1), (4, .int 1), (0, .ref (A 0)), (1, .long ex)]) hx hb d_MD_orderOf_35 rfl hl (by decide) rfl (fun ls hl => ?_)
      refine lv_iinc (v := 2) (lv' := [(4, .int 2), (3, .int 1), (0, .ref (A 0)), (1, .long ex)]) hx hb d_MD_orderOf_36 hl (k := 1) rfl (by decide) (by decide) rfl (fun ls hl => ?_)
      refine lv_goto (tgt := 5) hx hb d_MD_orderOf_39 (by decide) ?_
      refine lv_iload hx hb d_MD_orderOf_5 (lv_at hl 0 rfl) ?_
      refine lv_iconst (v := 4) hx hb d_MD_orderOf_7 (by decide) ?_
      refine lv_icmp_ge (tgt := 42) hx hb d_MD_orderOf_8 (by decide) (fun c0 => absurd c0 (by decide)) (fun _ => ?_)
      refine lv_lload_n hx hb d_MD_orderOf_11 rfl (lv_at hl 3 rfl) ?_
      refine lv_lconst (v := 0) hx hb d_MD_orderOf_12 rfl ?_
      refine pz_lle (tgt := 42) hx hb d_MD_orderOf_13 d_MD_orderOf_14 (by decide) (fun c0 => absurd c0 (k_nlt' c_1)) (fun _ => ?_)
      refine lv_aload_n hx hb d_MD_orderOf_17 rfl (lv_at hl 2 rfl) ?_
      refine pz_get (ci := 10) (C := "PageMakerModel") (T := T_MD) (N := 26) hx hb htb in_MD hown hK hP (lm_in (by decide)) h_2 rfl 24 (by decide) (htb _ tw_706) (fun _ h9 => h9) rfl d_MD_orderOf_18 ?_
      refine lv_iload hx hb d_MD_orderOf_21 (lv_at hl 0 rfl) ?_
      refine pz_laldN (j := 2) hx hb hK hP 1 (lm_in (by decide)) h_3 rfl (by decide) (by decide) d_MD_orderOf_23 ?_
      refine lv_lconst (v := 0) hx hb d_MD_orderOf_24 rfl ?_
      refine pz_lle (tgt := 34) hx hb d_MD_orderOf_25 d_MD_orderOf_26 (by decide) (fun c_8 => ?_) (fun c_8 => ?_)
      · refine lv_iload_n hx hb d_MD_orderOf_34 rfl (lv_at hl 1 rfl) ?_
        refine lv_istore_n (lv' := [(3, .int 1), (4, .int 2), (0, .ref (A 0)), (1, .long ex)]) hx hb d_MD_orderOf_35 rfl hl (by decide) rfl (fun ls hl => ?_)
        refine lv_iinc (v := 3) (lv' := [(4, .int 3), (3, .int 1), (0, .ref (A 0)), (1, .long ex)]) hx hb d_MD_orderOf_36 hl (k := 1) rfl (by decide) (by decide) rfl (fun ls hl => ?_)
        refine lv_goto (tgt := 5) hx hb d_MD_orderOf_39 (by decide) ?_
        refine lv_iload hx hb d_MD_orderOf_5 (lv_at hl 0 rfl) ?_
        refine lv_iconst (v := 4) hx hb d_MD_orderOf_7 (by decide) ?_
        refine lv_icmp_ge (tgt := 42) hx hb d_MD_orderOf_8 (by decide) (fun c0 => absurd c0 (by decide)) (fun _ => ?_)
        refine lv_lload_n hx hb d_MD_orderOf_11 rfl (lv_at hl 3 rfl) ?_
        refine lv_lconst (v := 0) hx hb d_MD_orderOf_12 rfl ?_
        refine pz_lle (tgt := 42) hx hb d_MD_orderOf_13 d_MD_orderOf_14 (by decide) (fun c0 => absurd c0 (k_nlt' c_1)) (fun _ => ?_)
        refine lv_aload_n hx hb d_MD_orderOf_17 rfl (lv_at hl 2 rfl) ?_
        refine pz_get (ci := 10) (C := "PageMakerModel") (T := T_MD) (N := 26) hx hb htb in_MD hown hK hP (lm_in (by decide)) h_2 rfl 24 (by decide) (htb _ tw_706) (fun _ h9 => h9) rfl d_MD_orderOf_18 ?_
        refine lv_iload hx hb d_MD_orderOf_21 (lv_at hl 0 rfl) ?_
        refine pz_laldN (j := 3) hx hb hK hP 1 (lm_in (by decide)) h_3 rfl (by decide) (by decide) d_MD_orderOf_23 ?_
        refine lv_lconst (v := 0) hx hb d_MD_orderOf_24 rfl ?_
        refine pz_lle (tgt := 34) hx hb d_MD_orderOf_25 d_MD_orderOf_26 (by decide) (fun c_9 => ?_) (fun c_9 => ?_)
        · refine lv_iload_n hx hb d_MD_orderOf_34 rfl (lv_at hl 1 rfl) ?_
          refine lv_istore_n (lv' := [(3, .int 1), (4, .int 3), (0, .ref (A 0)), (1, .long ex)]) hx hb d_MD_orderOf_35 rfl hl (by decide) rfl (fun ls hl => ?_)
          refine lv_iinc (v := 4) (lv' := [(4, .int 4), (3, .int 1), (0, .ref (A 0)), (1, .long ex)]) hx hb d_MD_orderOf_36 hl (k := 1) rfl (by decide) (by decide) rfl (fun ls hl => ?_)
          refine lv_goto (tgt := 5) hx hb d_MD_orderOf_39 (by decide) ?_
          refine lv_iload hx hb d_MD_orderOf_5 (lv_at hl 0 rfl) ?_
          refine lv_iconst (v := 4) hx hb d_MD_orderOf_7 (by decide) ?_
          refine lv_icmp_ge (tgt := 42) hx hb d_MD_orderOf_8 (by decide) (fun _ => ?_) (fun c0 => absurd c0 (by decide))
          refine lv_iload_n hx hb d_MD_orderOf_42 rfl (lv_at hl 1 rfl) ?_
          exact pz_iretS hx hb hr rfl hlocks (by rw [k_ord, if_pos c_1, k_go, if_neg (k_nlt c_9), if_neg (k_nlt c_8), if_pos c_4]) d_MD_orderOf_43
        · refine lv_iload hx hb d_MD_orderOf_29 (lv_at hl 0 rfl) ?_
          refine lv_goto (tgt := 35) hx hb d_MD_orderOf_31 (by decide) ?_
          refine lv_istore_n (lv' := [(3, .int 3), (4, .int 3), (0, .ref (A 0)), (1, .long ex)]) hx hb d_MD_orderOf_35 rfl hl (by decide) rfl (fun ls hl => ?_)
          refine lv_iinc (v := 4) (lv' := [(4, .int 4), (3, .int 3), (0, .ref (A 0)), (1, .long ex)]) hx hb d_MD_orderOf_36 hl (k := 1) rfl (by decide) (by decide) rfl (fun ls hl => ?_)
          refine lv_goto (tgt := 5) hx hb d_MD_orderOf_39 (by decide) ?_
          refine lv_iload hx hb d_MD_orderOf_5 (lv_at hl 0 rfl) ?_
          refine lv_iconst (v := 4) hx hb d_MD_orderOf_7 (by decide) ?_
          refine lv_icmp_ge (tgt := 42) hx hb d_MD_orderOf_8 (by decide) (fun _ => ?_) (fun c0 => absurd c0 (by decide))
          refine lv_iload_n hx hb d_MD_orderOf_42 rfl (lv_at hl 1 rfl) ?_
          exact pz_iretS hx hb hr rfl hlocks (by rw [k_ord, if_pos c_1, k_go, if_pos c_9]) d_MD_orderOf_43
      · refine lv_iload hx hb d_MD_orderOf_29 (lv_at hl 0 rfl) ?_
        refine lv_goto (tgt := 35) hx hb d_MD_orderOf_31 (by decide) ?_
        refine lv_istore_n (lv' := [(3, .int 2), (4, .int 2), (0, .ref (A 0)), (1, .long ex)]) hx hb d_MD_orderOf_35 rfl hl (by decide) rfl (fun ls hl => ?_)
        refine lv_iinc (v := 3) (lv' := [(4, .int 3), (3, .int 2), (0, .ref (A 0)), (1, .long ex)]) hx hb d_MD_orderOf_36 hl (k := 1) rfl (by decide) (by decide) rfl (fun ls hl => ?_)
        refine lv_goto (tgt := 5) hx hb d_MD_orderOf_39 (by decide) ?_
        refine lv_iload hx hb d_MD_orderOf_5 (lv_at hl 0 rfl) ?_
        refine lv_iconst (v := 4) hx hb d_MD_orderOf_7 (by decide) ?_
        refine lv_icmp_ge (tgt := 42) hx hb d_MD_orderOf_8 (by decide) (fun c0 => absurd c0 (by decide)) (fun _ => ?_)
        refine lv_lload_n hx hb d_MD_orderOf_11 rfl (lv_at hl 3 rfl) ?_
        refine lv_lconst (v := 0) hx hb d_MD_orderOf_12 rfl ?_
        refine pz_lle (tgt := 42) hx hb d_MD_orderOf_13 d_MD_orderOf_14 (by decide) (fun c0 => absurd c0 (k_nlt' c_1)) (fun _ => ?_)
        refine lv_aload_n hx hb d_MD_orderOf_17 rfl (lv_at hl 2 rfl) ?_
        refine pz_get (ci := 10) (C := "PageMakerModel") (T := T_MD) (N := 26) hx hb htb in_MD hown hK hP (lm_in (by decide)) h_2 rfl 24 (by decide) (htb _ tw_706) (fun _ h9 => h9) rfl d_MD_orderOf_18 ?_
        refine lv_iload hx hb d_MD_orderOf_21 (lv_at hl 0 rfl) ?_
        refine pz_laldN (j := 3) hx hb hK hP 1 (lm_in (by decide)) h_3 rfl (by decide) (by decide) d_MD_orderOf_23 ?_
        refine lv_lconst (v := 0) hx hb d_MD_orderOf_24 rfl ?_
        refine pz_lle (tgt := 34) hx hb d_MD_orderOf_25 d_MD_orderOf_26 (by decide) (fun c_10 => ?_) (fun c_10 => ?_)
        · refine lv_iload_n hx hb d_MD_orderOf_34 rfl (lv_at hl 1 rfl) ?_
          refine lv_istore_n (lv' := [(3, .int 2), (4, .int 3), (0, .ref (A 0)), (1, .long ex)]) hx hb d_MD_orderOf_35 rfl hl (by decide) rfl (fun ls hl => ?_)
          refine lv_iinc (v := 4) (lv' := [(4, .int 4), (3, .int 2), (0, .ref (A 0)), (1, .long ex)]) hx hb d_MD_orderOf_36 hl (k := 1) rfl (by decide) (by decide) rfl (fun ls hl => ?_)
          refine lv_goto (tgt := 5) hx hb d_MD_orderOf_39 (by decide) ?_
          refine lv_iload hx hb d_MD_orderOf_5 (lv_at hl 0 rfl) ?_
          refine lv_iconst (v := 4) hx hb d_MD_orderOf_7 (by decide) ?_
          refine lv_icmp_ge (tgt := 42) hx hb d_MD_orderOf_8 (by decide) (fun _ => ?_) (fun c0 => absurd c0 (by decide))
          refine lv_iload_n hx hb d_MD_orderOf_42 rfl (lv_at hl 1 rfl) ?_
          exact pz_iretS hx hb hr rfl hlocks (by rw [k_ord, if_pos c_1, k_go, if_neg (k_nlt c_10), if_pos c_8]) d_MD_orderOf_43
        · refine lv_iload hx hb d_MD_orderOf_29 (lv_at hl 0 rfl) ?_
          refine lv_goto (tgt := 35) hx hb d_MD_orderOf_31 (by decide) ?_
          refine lv_istore_n (lv' := [(3, .int 3), (4, .int 3), (0, .ref (A 0)), (1, .long ex)]) hx hb d_MD_orderOf_35 rfl hl (by decide) rfl (fun ls hl => ?_)
          refine lv_iinc (v := 4) (lv' := [(4, .int 4), (3, .int 3), (0, .ref (A 0)), (1, .long ex)]) hx hb d_MD_orderOf_36 hl (k := 1) rfl (by decide) (by decide) rfl (fun ls hl => ?_)
          refine lv_goto (tgt := 5) hx hb d_MD_orderOf_39 (by decide) ?_
          refine lv_iload hx hb d_MD_orderOf_5 (lv_at hl 0 rfl) ?_
          refine lv_iconst (v := 4) hx hb d_MD_orderOf_7 (by decide) ?_
          refine lv_icmp_ge (tgt := 42) hx hb d_MD_orderOf_8 (by decide) (fun _ => ?_) (fun c0 => absurd c0 (by decide))
          refine lv_iload_n hx hb d_MD_orderOf_42 rfl (lv_at hl 1 rfl) ?_
          exact pz_iretS hx hb hr rfl hlocks (by rw [k_ord, if_pos c_1, k_go, if_pos c_10]) d_MD_orderOf_43
set_option maxHeartbeats 4000000 in
set_option maxRecDepth 100000 in
theorem c_MD_nearest (l : Launch) (a b d : Int64) (h0 : ¬ d = 0) : pJ l y_MD_nearest w_MD_nearest ({ frames := 0, cells := 0, slots := 0, locals := 0 }) [.long a, .long b, .long d] (fun r => r = k_near a b d) := by
  refine pz_metP (cc := prog_12_method_26_code) (maxL := 11) (ret := (some .long)) (by decide) rfl (Nat.le_of_ble_eq_true rfl) ?_
  intro p e s m below meth c ls hx hb hr hml hts hown hlocks hl
  have htb : ∀ w ∈ TB, w.before _ s = true := fun w h => hts w (List.mem_cons_of_mem _ h)
  have hl : lv_has ls 11 [(0, .long a), (2, .long b), (4, .long d)] := hl
  refine lv_lconst (v := 0) hx hb d_MD_nearest_0 rfl ?_
  refine lv_lstore (lv' := [(6, .long 0), (0, .long a), (2, .long b), (4, .long d)]) hx hb d_MD_nearest_1 hl (by decide) rfl (fun ls hl => ?_)
  refine lv_lconst (v := 0) hx hb d_MD_nearest_3 rfl ?_
  refine lv_lstore (lv' := [(8, .long 0), (6, .long 0), (0, .long a), (2, .long b), (4, .long d)]) hx hb d_MD_nearest_4 hl (by decide) rfl (fun ls hl => ?_)
  refine lv_bipush (v := 60) hx hb d_MD_nearest_6 (by decide) ?_
  refine lv_istore (lv' := [(10, .int 60), (8, .long 0), (6, .long 0), (0, .long a), (2, .long b), (4, .long d)]) hx hb d_MD_nearest_8 hl (by decide) rfl (fun ls hl => ?_)
  refine lv_iload hx hb d_MD_nearest_10 (lv_at hl 0 rfl) ?_
  refine lv_if_lt (tgt := 61) hx hb d_MD_nearest_12 (by decide) (fun c0 => absurd c0 (by decide)) (fun _ => ?_)
  refine lv_lload hx hb d_MD_nearest_15 (lv_at hl 1 rfl) ?_
  refine lv_ldc2 (v := 1048576) hx hb hown (htb _ tw_871) d_MD_nearest_17 ?_
  refine lv_lmul hx hb d_MD_nearest_20 ?_
  refine lv_lload_n hx hb d_MD_nearest_21 rfl (lv_at hl 3 rfl) ?_
  refine lv_iload hx hb d_MD_nearest_22 (lv_at hl 0 rfl) ?_
  refine lv_lshr hx hb d_MD_nearest_24 rfl ?_
  refine lv_ldc2 (v := 1048575) hx hb hown (htb _ tw_872) d_MD_nearest_25 ?_
  refine lv_land hx hb d_MD_nearest_28 ?_
  refine lv_lload_n hx hb d_MD_nearest_29 rfl (lv_at hl 4 rfl) ?_
  refine lv_lmul hx hb d_MD_nearest_30 ?_
  refine lv_ladd hx hb d_MD_nearest_31 ?_
  refine lv_topl (fun x1 ex1 => ?_)
  refine lv_lstore (lv' := [(8, .long x1), (10, .int 60), (6, .long 0), (0, .long a), (2, .long b), (4, .long d)]) hx hb d_MD_nearest_32 hl (by decide) rfl (fun ls hl => ?_)
  refine lv_lload hx hb d_MD_nearest_34 (lv_at hl 2 rfl) ?_
  refine lv_ldc2 (v := 1048576) hx hb hown (htb _ tw_871) d_MD_nearest_36 ?_
  refine lv_lmul hx hb d_MD_nearest_39 ?_
  refine lv_lload hx hb d_MD_nearest_40 (lv_at hl 0 rfl) ?_
  refine lv_lload hx hb d_MD_nearest_42 (lv_at hl 5 rfl) ?_
  have hne2 : ¬ d = 0 := h0
  refine lv_ldiv hx hb d_MD_nearest_44 hne2 ?_
  refine lv_ladd hx hb d_MD_nearest_45 ?_
  refine lv_topl (fun x3 ex3 => ?_)
  refine lv_lstore (lv' := [(6, .long x3), (8, .long x1), (10, .int 60), (0, .long a), (2, .long b), (4, .long d)]) hx hb d_MD_nearest_46 hl (by decide) rfl (fun ls hl => ?_)
  refine lv_lload hx hb d_MD_nearest_48 (lv_at hl 1 rfl) ?_
  refine lv_lload hx hb d_MD_nearest_50 (lv_at hl 5 rfl) ?_
  have hne4 : ¬ d = 0 := h0
  refine lv_lrem hx hb d_MD_nearest_52 hne4 ?_
  refine lv_topl (fun x5 ex5 => ?_)
  refine lv_lstore (lv' := [(8, .long x5), (6, .long x3), (10, .int 60), (0, .long a), (2, .long b), (4, .long d)]) hx hb d_MD_nearest_53 hl (by decide) rfl (fun ls hl => ?_)
  refine lv_iinc (v := 40) (lv' := [(10, .int 40), (8, .long x5), (6, .long x3), (0, .long a), (2, .long b), (4, .long d)]) hx hb d_MD_nearest_55 hl (k := 2) rfl (by decide) (by decide) rfl (fun ls hl => ?_)
  refine lv_goto (tgt := 10) hx hb d_MD_nearest_58 (by decide) ?_
  refine lv_iload hx hb d_MD_nearest_10 (lv_at hl 0 rfl) ?_
  refine lv_if_lt (tgt := 61) hx hb d_MD_nearest_12 (by decide) (fun c0 => absurd c0 (by decide)) (fun _ => ?_)
  refine lv_lload hx hb d_MD_nearest_15 (lv_at hl 1 rfl) ?_
  refine lv_ldc2 (v := 1048576) hx hb hown (htb _ tw_871) d_MD_nearest_17 ?_
  refine lv_lmul hx hb d_MD_nearest_20 ?_
  refine lv_lload_n hx hb d_MD_nearest_21 rfl (lv_at hl 3 rfl) ?_
  refine lv_iload hx hb d_MD_nearest_22 (lv_at hl 0 rfl) ?_
  refine lv_lshr hx hb d_MD_nearest_24 rfl ?_
  refine lv_ldc2 (v := 1048575) hx hb hown (htb _ tw_872) d_MD_nearest_25 ?_
  refine lv_land hx hb d_MD_nearest_28 ?_
  refine lv_lload_n hx hb d_MD_nearest_29 rfl (lv_at hl 4 rfl) ?_
  refine lv_lmul hx hb d_MD_nearest_30 ?_
  refine lv_ladd hx hb d_MD_nearest_31 ?_
  refine lv_topl (fun x6 ex6 => ?_)
  refine lv_lstore (lv' := [(8, .long x6), (10, .int 40), (6, .long x3), (0, .long a), (2, .long b), (4, .long d)]) hx hb d_MD_nearest_32 hl (by decide) rfl (fun ls hl => ?_)
  refine lv_lload hx hb d_MD_nearest_34 (lv_at hl 2 rfl) ?_
  refine lv_ldc2 (v := 1048576) hx hb hown (htb _ tw_871) d_MD_nearest_36 ?_
  refine lv_lmul hx hb d_MD_nearest_39 ?_
  refine lv_lload hx hb d_MD_nearest_40 (lv_at hl 0 rfl) ?_
  refine lv_lload hx hb d_MD_nearest_42 (lv_at hl 5 rfl) ?_
  have hne7 : ¬ d = 0 := h0
  refine lv_ldiv hx hb d_MD_nearest_44 hne7 ?_
  refine lv_ladd hx hb d_MD_nearest_45 ?_
  refine lv_topl (fun x8 ex8 => ?_)
  refine lv_lstore (lv' := [(6, .long x8), (8, .long x6), (10, .int 40), (0, .long a), (2, .long b), (4, .long d)]) hx hb d_MD_nearest_46 hl (by decide) rfl (fun ls hl => ?_)
  refine lv_lload hx hb d_MD_nearest_48 (lv_at hl 1 rfl) ?_
  refine lv_lload hx hb d_MD_nearest_50 (lv_at hl 5 rfl) ?_
  have hne9 : ¬ d = 0 := h0
  refine lv_lrem hx hb d_MD_nearest_52 hne9 ?_
  refine lv_topl (fun x10 ex10 => ?_)
  refine lv_lstore (lv' := [(8, .long x10), (6, .long x8), (10, .int 40), (0, .long a), (2, .long b), (4, .long d)]) hx hb d_MD_nearest_53 hl (by decide) rfl (fun ls hl => ?_)
  refine lv_iinc (v := 20) (lv' := [(10, .int 20), (8, .long x10), (6, .long x8), (0, .long a), (2, .long b), (4, .long d)]) hx hb d_MD_nearest_55 hl (k := 2) rfl (by decide) (by decide) rfl (fun ls hl => ?_)
  refine lv_goto (tgt := 10) hx hb d_MD_nearest_58 (by decide) ?_
  refine lv_iload hx hb d_MD_nearest_10 (lv_at hl 0 rfl) ?_
  refine lv_if_lt (tgt := 61) hx hb d_MD_nearest_12 (by decide) (fun c0 => absurd c0 (by decide)) (fun _ => ?_)
  refine lv_lload hx hb d_MD_nearest_15 (lv_at hl 1 rfl) ?_
  refine lv_ldc2 (v := 1048576) hx hb hown (htb _ tw_871) d_MD_nearest_17 ?_
  refine lv_lmul hx hb d_MD_nearest_20 ?_
  refine lv_lload_n hx hb d_MD_nearest_21 rfl (lv_at hl 3 rfl) ?_
  refine lv_iload hx hb d_MD_nearest_22 (lv_at hl 0 rfl) ?_
  refine lv_lshr hx hb d_MD_nearest_24 rfl ?_
  refine lv_ldc2 (v := 1048575) hx hb hown (htb _ tw_872) d_MD_nearest_25 ?_
  refine lv_land hx hb d_MD_nearest_28 ?_
  refine lv_lload_n hx hb d_MD_nearest_29 rfl (lv_at hl 4 rfl) ?_
  refine lv_lmul hx hb d_MD_nearest_30 ?_
  refine lv_ladd hx hb d_MD_nearest_31 ?_
  refine lv_topl (fun x11 ex11 => ?_)
  refine lv_lstore (lv' := [(8, .long x11), (10, .int 20), (6, .long x8), (0, .long a), (2, .long b), (4, .long d)]) hx hb d_MD_nearest_32 hl (by decide) rfl (fun ls hl => ?_)
  refine lv_lload hx hb d_MD_nearest_34 (lv_at hl 2 rfl) ?_
  refine lv_ldc2 (v := 1048576) hx hb hown (htb _ tw_871) d_MD_nearest_36 ?_
  refine lv_lmul hx hb d_MD_nearest_39 ?_
  refine lv_lload hx hb d_MD_nearest_40 (lv_at hl 0 rfl) ?_
  refine lv_lload hx hb d_MD_nearest_42 (lv_at hl 5 rfl) ?_
  have hne12 : ¬ d = 0 := h0
  refine lv_ldiv hx hb d_MD_nearest_44 hne12 ?_
  refine lv_ladd hx hb d_MD_nearest_45 ?_
  refine lv_topl (fun x13 ex13 => ?_)
  refine lv_lstore (lv' := [(6, .long x13), (8, .long x11), (10, .int 20), (0, .long a), (2, .long b), (4, .long d)]) hx hb d_MD_nearest_46 hl (by decide) rfl (fun ls hl => ?_)
  refine lv_lload hx hb d_MD_nearest_48 (lv_at hl 1 rfl) ?_
  refine lv_lload hx hb d_MD_nearest_50 (lv_at hl 5 rfl) ?_
  have hne14 : ¬ d = 0 := h0
  refine lv_lrem hx hb d_MD_nearest_52 hne14 ?_
  refine lv_topl (fun x15 ex15 => ?_)
  refine lv_lstore (lv' := [(8, .long x15), (6, .long x13), (10, .int 20), (0, .long a), (2, .long b), (4, .long d)]) hx hb d_MD_nearest_53 hl (by decide) rfl (fun ls hl => ?_)
  refine lv_iinc (v := 0) (lv' := [(10, .int 0), (8, .long x15), (6, .long x13), (0, .long a), (2, .long b), (4, .long d)]) hx hb d_MD_nearest_55 hl (k := 2) rfl (by decide) (by decide) rfl (fun ls hl => ?_)
  refine lv_goto (tgt := 10) hx hb d_MD_nearest_58 (by decide) ?_
  refine lv_iload hx hb d_MD_nearest_10 (lv_at hl 0 rfl) ?_
  refine lv_if_lt (tgt := 61) hx hb d_MD_nearest_12 (by decide) (fun c0 => absurd c0 (by decide)) (fun _ => ?_)
  refine lv_lload hx hb d_MD_nearest_15 (lv_at hl 1 rfl) ?_
  refine lv_ldc2 (v := 1048576) hx hb hown (htb _ tw_871) d_MD_nearest_17 ?_
  refine lv_lmul hx hb d_MD_nearest_20 ?_
  refine lv_lload_n hx hb d_MD_nearest_21 rfl (lv_at hl 3 rfl) ?_
  refine lv_iload hx hb d_MD_nearest_22 (lv_at hl 0 rfl) ?_
  refine lv_lshr hx hb d_MD_nearest_24 rfl ?_
  refine lv_ldc2 (v := 1048575) hx hb hown (htb _ tw_872) d_MD_nearest_25 ?_
  refine lv_land hx hb d_MD_nearest_28 ?_
  refine lv_lload_n hx hb d_MD_nearest_29 rfl (lv_at hl 4 rfl) ?_
  refine lv_lmul hx hb d_MD_nearest_30 ?_
  refine lv_ladd hx hb d_MD_nearest_31 ?_
  refine lv_topl (fun x16 ex16 => ?_)
  refine lv_lstore (lv' := [(8, .long x16), (10, .int 0), (6, .long x13), (0, .long a), (2, .long b), (4, .long d)]) hx hb d_MD_nearest_32 hl (by decide) rfl (fun ls hl => ?_)
  refine lv_lload hx hb d_MD_nearest_34 (lv_at hl 2 rfl) ?_
  refine lv_ldc2 (v := 1048576) hx hb hown (htb _ tw_871) d_MD_nearest_36 ?_
  refine lv_lmul hx hb d_MD_nearest_39 ?_
  refine lv_lload hx hb d_MD_nearest_40 (lv_at hl 0 rfl) ?_
  refine lv_lload hx hb d_MD_nearest_42 (lv_at hl 5 rfl) ?_
  have hne17 : ¬ d = 0 := h0
  refine lv_ldiv hx hb d_MD_nearest_44 hne17 ?_
  refine lv_ladd hx hb d_MD_nearest_45 ?_
  refine lv_topl (fun x18 ex18 => ?_)
  refine lv_lstore (lv' := [(6, .long x18), (8, .long x16), (10, .int 0), (0, .long a), (2, .long b), (4, .long d)]) hx hb d_MD_nearest_46 hl (by decide) rfl (fun ls hl => ?_)
  refine lv_lload hx hb d_MD_nearest_48 (lv_at hl 1 rfl) ?_
  refine lv_lload hx hb d_MD_nearest_50 (lv_at hl 5 rfl) ?_
  have hne19 : ¬ d = 0 := h0
  refine lv_lrem hx hb d_MD_nearest_52 hne19 ?_
  refine lv_topl (fun x20 ex20 => ?_)
  refine lv_lstore (lv' := [(8, .long x20), (6, .long x18), (10, .int 0), (0, .long a), (2, .long b), (4, .long d)]) hx hb d_MD_nearest_53 hl (by decide) rfl (fun ls hl => ?_)
  refine lv_iinc (v := (-20)) (lv' := [(10, .int (-20)), (8, .long x20), (6, .long x18), (0, .long a), (2, .long b), (4, .long d)]) hx hb d_MD_nearest_55 hl (k := 2) rfl (by decide) (by decide) rfl (fun ls hl => ?_)
  refine lv_goto (tgt := 10) hx hb d_MD_nearest_58 (by decide) ?_
  refine lv_iload hx hb d_MD_nearest_10 (lv_at hl 0 rfl) ?_
  refine lv_if_lt (tgt := 61) hx hb d_MD_nearest_12 (by decide) (fun _ => ?_) (fun c0 => absurd c0 (by decide))
  refine lv_lload hx hb d_MD_nearest_61 (lv_at hl 1 rfl) ?_
  refine lv_lload hx hb d_MD_nearest_63 (lv_at hl 5 rfl) ?_
  refine lv_lload hx hb d_MD_nearest_65 (lv_at hl 1 rfl) ?_
  refine lv_lsub hx hb d_MD_nearest_67 ?_
  refine pz_llt (tgt := 79) hx hb d_MD_nearest_68 d_MD_nearest_69 (by decide) (fun c_21 => ?_) (fun c_21 => ?_)
  · refine lv_lload hx hb d_MD_nearest_79 (lv_at hl 2 rfl) ?_
    exact pz_lretS hx hb hr hlocks (by subst ex20; subst ex18; subst ex16; subst ex15; subst ex13; subst ex11; subst ex10; subst ex8; subst ex6; subst ex5; subst ex3; subst ex1; exact (if_neg (k_nlt' c_21)).symm) d_MD_nearest_81
  · refine lv_lload hx hb d_MD_nearest_72 (lv_at hl 2 rfl) ?_
    refine lv_lconst (v := 1) hx hb d_MD_nearest_74 rfl ?_
    refine lv_ladd hx hb d_MD_nearest_75 ?_
    refine lv_goto (tgt := 81) hx hb d_MD_nearest_76 (by decide) ?_
    exact pz_lretS hx hb hr hlocks (by subst ex20; subst ex18; subst ex16; subst ex15; subst ex13; subst ex11; subst ex10; subst ex8; subst ex6; subst ex5; subst ex3; subst ex1; exact (if_pos c_21).symm) d_MD_nearest_81
set_option maxHeartbeats 4000000 in
set_option maxRecDepth 100000 in
/-- model: items -/
theorem c_MD_items (l : Launch) (G : gG) (A : Nat → Nat) (hA9 : mJn A) (M : MS) (sz : Nat)   : mI l y_MD_items w_MD_items ({ frames := 0, cells := 0, slots := 0, locals := 0 }) G (LM A) (mF G A M) sz [.ref (A 0)] 0 0 (fun r u => r = M.ct ∧ u = (LM A, mF G A (M.si 0 0))) := by
  refine pz_met (cc := prog_12_method_22_code) (maxL := 1) (ret := (some .int)) (by decide) rfl (Nat.le_of_ble_eq_true rfl) ?_
  intro p e s m below meth c ls hx hb hr hml hts hown hlocks hin hsz hK hP hD hS hA hz hl
  have htb : ∀ w ∈ TB, w.before _ s = true := fun w h => hts w (List.mem_cons_of_mem _ h)
  have hl : lv_has ls 1 [(0, .ref (A 0))] := hl
  refine lv_aload_n hx hb d_MD_items_0 rfl (lv_at hl 0 rfl) ?_
  refine lv_iconst (v := 0) hx hb d_MD_items_1 (by decide) ?_
  have h_1 : mF G A M (A 0) = .inr (10, [.int M.th, .ref (A 1), .ref (A 2), .ref (A 3), .ref (A 4), .ref (A 5), .int M.ct, .int M.ht, .int M.tp, .int M.gr, .ref (A 6), .ref (A 7), .ref (A 8), .ref (A 9), .ref (A 10), .ref (A 11), .ref (A 12), .int M.pg, .int M.bg, .int M.io, .int M.be, .int M.le, .long M.ln, .long M.dp, .ref (A 13), .long M.sh]) := mf_at hA9 M 0 (by decide)
  refine pz_put (ci := 10) (v := .int 0) (ty := .int) (C := "PageMakerModel") (T := T_MD) (N := 26) hx hb htb in_MD ty_MD to_MD nm_MD hown hK hP hD hS (lm_in (by decide)) h_1 rfl 0 (by decide) (htb _ tw_682) (fun _ h9 => h9) rfl rfl rfl rfl (Nat.le_of_ble_eq_true rfl) d_MD_items_2 (fun f2 H locs ef2 hP hD hS => ?_)
  have ef2 : f2 = va_up (mF G A M) (A 0) (.inr (10, [.int 0, .ref (A 1), .ref (A 2), .ref (A 3), .ref (A 4), .ref (A 5), .int M.ct, .int M.ht, .int M.tp, .int M.gr, .ref (A 6), .ref (A 7), .ref (A 8), .ref (A 9), .ref (A 10), .ref (A 11), .ref (A 12), .int M.pg, .int M.bg, .int M.io, .int M.be, .int M.le, .long M.ln, .long M.dp, .ref (A 13), .long M.sh])) := ef2
  have ef2 : f2 = mF G A (M.si 0 0) := ef2.trans (mf_o hA9 (M1 := M.si 0 0) rfl rfl)
  subst ef2
  refine lv_aload_n hx hb d_MD_items_5 rfl (lv_at hl 0 rfl) ?_
  have h_3 : mF G A (M.si 0 0) (A 0) = .inr (10, [.int 0, .ref (A 1), .ref (A 2), .ref (A 3), .ref (A 4), .ref (A 5), .int M.ct, .int M.ht, .int M.tp, .int M.gr, .ref (A 6), .ref (A 7), .ref (A 8), .ref (A 9), .ref (A 10), .ref (A 11), .ref (A 12), .int M.pg, .int M.bg, .int M.io, .int M.be, .int M.le, .long M.ln, .long M.dp, .ref (A 13), .long M.sh]) := mf_at hA9 (M.si 0 0) 0 (by decide)
  refine pz_get (ci := 10) (C := "PageMakerModel") (T := T_MD) (N := 26) hx hb htb in_MD hown hK hP (lm_in (by decide)) h_3 rfl 6 (by decide) (htb _ tw_688) (fun _ h9 => h9) rfl d_MD_items_6 ?_
  exact pz_iret hx hb hr rfl hlocks hK hP hD hS (Nat.le_of_ble_eq_true rfl) (Nat.le_of_ble_eq_true rfl) ⟨rfl, rfl⟩ d_MD_items_9
set_option maxHeartbeats 4000000 in
set_option maxRecDepth 100000 in
/-- model: pages -/
theorem c_MD_pages (l : Launch) (G : gG) (A : Nat → Nat) (hA9 : mJn A) (M : MS) (sz : Nat)   : mI l y_MD_pages w_MD_pages ({ frames := 0, cells := 0, slots := 0, locals := 0 }) G (LM A) (mF G A M) sz [.ref (A 0)] 0 0 (fun r u => r = M.pg ∧ u = (LM A, mF G A (M.si 0 0))) := by
  refine pz_met (cc := prog_12_method_23_code) (maxL := 1) (ret := (some .int)) (by decide) rfl (Nat.le_of_ble_eq_true rfl) ?_
  intro p e s m below meth c ls hx hb hr hml hts hown hlocks hin hsz hK hP hD hS hA hz hl
  have htb : ∀ w ∈ TB, w.before _ s = true := fun w h => hts w (List.mem_cons_of_mem _ h)
  have hl : lv_has ls 1 [(0, .ref (A 0))] := hl
  refine lv_aload_n hx hb d_MD_pages_0 rfl (lv_at hl 0 rfl) ?_
  refine lv_iconst (v := 0) hx hb d_MD_pages_1 (by decide) ?_
  have h_1 : mF G A M (A 0) = .inr (10, [.int M.th, .ref (A 1), .ref (A 2), .ref (A 3), .ref (A 4), .ref (A 5), .int M.ct, .int M.ht, .int M.tp, .int M.gr, .ref (A 6), .ref (A 7), .ref (A 8), .ref (A 9), .ref (A 10), .ref (A 11), .ref (A 12), .int M.pg, .int M.bg, .int M.io, .int M.be, .int M.le, .long M.ln, .long M.dp, .ref (A 13), .long M.sh]) := mf_at hA9 M 0 (by decide)
  refine pz_put (ci := 10) (v := .int 0) (ty := .int) (C := "PageMakerModel") (T := T_MD) (N := 26) hx hb htb in_MD ty_MD to_MD nm_MD hown hK hP hD hS (lm_in (by decide)) h_1 rfl 0 (by decide) (htb _ tw_682) (fun _ h9 => h9) rfl rfl rfl rfl (Nat.le_of_ble_eq_true rfl) d_MD_pages_2 (fun f2 H locs ef2 hP hD hS => ?_)
  have ef2 : f2 = va_up (mF G A M) (A 0) (.inr (10, [.int 0, .ref (A 1), .ref (A 2), .ref (A 3), .ref (A 4), .ref (A 5), .int M.ct, .int M.ht, .int M.tp, .int M.gr, .ref (A 6), .ref (A 7), .ref (A 8), .ref (A 9), .ref (A 10), .ref (A 11), .ref (A 12), .int M.pg, .int M.bg, .int M.io, .int M.be, .int M.le, .long M.ln, .long M.dp, .ref (A 13), .long M.sh])) := ef2
  have ef2 : f2 = mF G A (M.si 0 0) := ef2.trans (mf_o hA9 (M1 := M.si 0 0) rfl rfl)
  subst ef2
  refine lv_aload_n hx hb d_MD_pages_5 rfl (lv_at hl 0 rfl) ?_
  have h_3 : mF G A (M.si 0 0) (A 0) = .inr (10, [.int 0, .ref (A 1), .ref (A 2), .ref (A 3), .ref (A 4), .ref (A 5), .int M.ct, .int M.ht, .int M.tp, .int M.gr, .ref (A 6), .ref (A 7), .ref (A 8), .ref (A 9), .ref (A 10), .ref (A 11), .ref (A 12), .int M.pg, .int M.bg, .int M.io, .int M.be, .int M.le, .long M.ln, .long M.dp, .ref (A 13), .long M.sh]) := mf_at hA9 (M.si 0 0) 0 (by decide)
  refine pz_get (ci := 10) (C := "PageMakerModel") (T := T_MD) (N := 26) hx hb htb in_MD hown hK hP (lm_in (by decide)) h_3 rfl 17 (by decide) (htb _ tw_699) (fun _ h9 => h9) rfl d_MD_pages_6 ?_
  exact pz_iret hx hb hr rfl hlocks hK hP hD hS (Nat.le_of_ble_eq_true rfl) (Nat.le_of_ble_eq_true rfl) ⟨rfl, rfl⟩ d_MD_pages_9
