/-! THE LAW: its loop, and its beginning -/
theorem law_le {n L : Nat} (hL : L ≤ 2560) (hn : 5 * n ≤ L) (h : ¬ Int32.ofNat L - 5 < nI (5 * n)) : 5 * n + 5 ≤ L := by
  rw [Int32.lt_iff_toInt_lt, nI_toInt (by omega), Int32.toInt_sub, show (Int32.ofNat L).toInt = (L : Int) from nI_toInt (by omega), show (5 : Int32).toInt = 5 by decide, Int.bmod_eq_of_le (by omega) (by omega)] at h
  omega
theorem law_and (x : Int32) : ∃ k : Nat, k < 16 ∧ x &&& (15 : Int32) = nI k := by
  have h1 : (x &&& (15 : Int32)).toBitVec.toNat ≤ 15 := by
    rw [Int32.toBitVec_and, BitVec.toNat_and]
    exact Nat.and_le_right
  refine ⟨(x &&& (15 : Int32)).toBitVec.toNat, by omega, ?_⟩
  apply Int32.toBitVec_inj.mp
  apply BitVec.eq_of_toNat_eq
  show _ = (BitVec.ofNat 32 _).toNat
  rw [BitVec.toNat_ofNat, Nat.mod_eq_of_lt (by omega)]
theorem law_pl {L : List Nat} {q : Nat} {f : Nat → va_E} : va_pl (L ++ [q]) f = va_pl L f ++ [(q, f q)] := List.map_append
theorem law_front {D : va_G} {cl : List vw_C} {X : va_W} {L : List Nat} {q : Nat} {f : Nat → va_E} {H : Heap} (h : va_P D cl (X ++ va_pl (L ++ [q]) f) H) : va_P D cl (X ++ va_pl (q :: L) f) H := by
  rw [law_pl, ← List.append_assoc] at h
  have h2 := va_P.swap h
  rw [List.append_assoc] at h2
  exact h2
theorem law_frontD {A : Nat → Prop} {X : va_W} {L : List Nat} {q : Nat} {f : Nat → va_E} (h : va_D A (X ++ va_pl (L ++ [q]) f)) : va_D A (X ++ va_pl (q :: L) f) := by
  rw [law_pl, ← List.append_assoc] at h
  have h2 := va_D.swap h
  rw [List.append_assoc] at h2
  exact h2
set_option maxHeartbeats 4000000 in
set_option maxRecDepth 100000 in
/-- the law: its loop, n calls done -/
theorem law_loop {p : Program} {e : Env} {s : State} {m : MethodId} {below : List Frame} {meth : Method} {c : Code} (l : Launch) (hl9 : l.stackTraces = false) {b Ln : Nat} {xs : Nat → Int32} (hL : Ln ≤ 2560) (C0 : lw_At p s m meth c b Ln xs) (G : gG) (hK : va_K (gD G) cls9 (gT G) s) (hz : gZ G (fun q : Nat => s.heap.size ≤ q) s s.heap) (A : Nat → Nat) (hA9 : mJn A) (pm out : Nat) : ∀ (mm n : Nat) (L : List Nat) (f : Nat → va_E) (M : MS) (S : CS) (H : Heap) (locs : List Loc) (ls : Array Slot), n + mm = 513 → 5 * n ≤ Ln → LI G L f pm out M S n → va_P (gD G) cls9 (va_pl (LM A) (mF G A M) ++ va_pl (out :: L) f) H → va_D (fun q : Nat => s.heap.size ≤ q) (va_pl (LM A) (mF G A M) ++ va_pl (out :: L) f) → va_S (fun q : Nat => s.heap.size ≤ q) s.heap H locs → lv_has ls 8 [(0, .ref b), (1, .ref pm), (2, .ref (A 0)), (3, .ref out), (4, .int (nI (5 * n)))] →
    W p l e room_1 s m #[Value.ref b] below meth c H locs (22 + 2 * n + 7 * S.2.2.1.length) (24067 + 904 * n + 933 * S.2.2.1.length) (lw_Z below #[Value.ref b] s) (F0 m 23 ls []) := by
  obtain ⟨hx, hb, hr, hml, hown, hts0, hX, hbl, hlocks, hgv⟩ := id C0
  have hA : ∀ q : Nat, s.heap.size ≤ q → (fun q : Nat => s.heap.size ≤ q) q := fun _ h => h
  have hbA : ¬ (fun q : Nat => s.heap.size ≤ q) b := Nat.not_le.mpr hbl
  have htb : ∀ w ∈ TB, w.before #[Value.ref b] s = true := fun w h => hts0 w (List.mem_filter.mp h).1
  have hts : ∀ w ∈ (Cond.initialized "PageMaker" :: TB), w.before #[Value.ref b] s = true := fun w h => (List.mem_cons.mp h).elim (fun e9 => e9 ▸ htb _ tw_1) (htb w)
  intro mm
  induction mm with
  | zero =>
    intro n L f M S H locs ls h1 h2
    exact absurd h2 (by omega)
  | succ mm ih =>
    intro n L f M S H locs ls h1 h2 hI hP hD hS hl
    have hp5 : S.2.2.1.length ≤ 512 := j_pgs hI.2.2.1
    refine lv_iload hx hb d_LW_law_23 (lv_at hl 4 rfl) ?_
    refine lv_aload_n hx hb d_LW_law_25 rfl (lv_at hl 0 rfl) ?_
    refine va_slen hx hb hX hbl hbA hS d_LW_law_26 ?_
    refine lv_iconst (v := 5) hx hb d_LW_law_27 (by decide) ?_
    refine lv_isub hx hb d_LW_law_28 ?_
    refine lv_icmp_gt (tgt := 717) hx hb d_LW_law_29 (by decide) (fun c_1 => ?_) (fun c_1 => ?_)
    · refine lv_iconst (v := 1) hx hb d_LW_law_717 (by decide) ?_
      refine va_forget (fun q hq => hS.2.2 q hq) ?_
      refine W.widen (k := 601024) (n := 7293034) (by omega) (by omega) ?_
      exact lw_ret hx hb hr hlocks d_LW_law_718
    · have hn : 5 * n + 5 ≤ Ln := law_le (by omega) (by omega) c_1
      obtain ⟨v0, hv09⟩ : ∃ v, v = xs (5 * n) := ⟨_, rfl⟩
      have hnext : ∀ (L1 : List Nat) (f1 : Nat → va_E) (M1 : MS) (S1 : CS) (H1 : Heap) (locs1 : List Loc) (ls1 : Array Slot), LI G L1 f1 pm out M1 S1 (n + 1) → va_P (gD G) cls9 (va_pl (LM A) (mF G A M1) ++ va_pl (out :: L1) f1) H1 → va_D (fun q : Nat => s.heap.size ≤ q) (va_pl (LM A) (mF G A M1) ++ va_pl (out :: L1) f1) → va_S (fun q : Nat => s.heap.size ≤ q) s.heap H1 locs1 → lv_has ls1 8 [(0, .ref b), (1, .ref pm), (2, .ref (A 0)), (3, .ref out), (4, .int (nI (5 * n)))] → W p l e room_1 s m #[Value.ref b] below meth c H1 locs1 (22 + 2 * (n + 1) + 7 * S1.2.2.1.length) (24067 + 904 * (n + 1) + 933 * S1.2.2.1.length) (lw_Z below #[Value.ref b] s) (F0 m 711 ls1 []) := by
        intro L1 f1 M1 S1 H1 locs1 ls1 hI1 hP1 hD1 hS1 hl
        refine lv_iinc (v := nI (5 * (n + 1))) (lv' := [(4, .int (nI (5 * (n + 1)))), (0, .ref b), (1, .ref pm), (2, .ref (A 0)), (3, .ref out)]) hx hb d_LW_law_711 hl (k := 4) rfl (nI_add (5 * n) 5) (by decide) rfl (fun ls hl => ?_)
        refine lv_goto (tgt := 23) hx hb d_LW_law_714 (by decide) ?_
        exact ih (n + 1) L1 f1 M1 S1 H1 locs1 ls (by omega) (by omega) hI1 hP1 hD1 hS1 (lv_sub hl [1, 2, 3, 4, 0] rfl)
      refine lv_aload_n hx hb d_LW_law_32 rfl (lv_at hl 0 rfl) ?_
      refine lv_iload hx hb d_LW_law_33 (lv_at hl 4 rfl) ?_
      refine law_sld (j := (5 * n)) (v := v0) hv09 hx hb hX hbl hbA hS (by omega) (by omega) d_LW_law_35 ?_
      refine lv_bipush (v := 15) hx hb d_LW_law_36 (by decide) ?_
      refine lv_iand hx hb d_LW_law_38 ?_
      obtain ⟨kx, hkx, ekx⟩ := law_and v0
      refine lv_topi (fun x2 ex2 => ?_)
      have ex2 : x2 = nI kx := ex2.trans (ekx)
      subst ex2
      rcases (show kx = 0 ∨ kx = 1 ∨ kx = 2 ∨ kx = 3 ∨ kx = 4 ∨ kx = 5 ∨ kx = 6 ∨ kx = 7 ∨ kx = 8 ∨ kx = 9 ∨ kx = 10 ∨ kx = 11 ∨ kx = 12 ∨ kx = 13 ∨ kx = 14 ∨ kx = 15 by omega) with rfl | rfl | rfl | rfl | rfl | rfl | rfl | rfl | rfl | rfl | rfl | rfl | rfl | rfl | rfl | rfl
      · refine lv_tableIn (x := 0) (tgt := 96) hx hb d_LW_law_39 (by decide) (by decide) rfl (by decide) ?_
        exact lw_frame l hl9 hL C0 G hK hz A hA9 pm out n hn L f M S hI H locs hP hD hS ls hl hnext
      · refine lv_tableIn (x := 1) (tgt := 156) hx hb d_LW_law_39 (by decide) (by decide) rfl (by decide) ?_
        exact lw_box l hl9 hL C0 G hK hz A hA9 pm out n hn L f M S hI H locs hP hD hS ls hl hnext
      · refine lv_tableIn (x := 2) (tgt := 236) hx hb d_LW_law_39 (by decide) (by decide) rfl (by decide) ?_
        exact lw_glue l hl9 hL C0 G hK hz A hA9 pm out n hn L f M S hI H locs hP hD hS ls hl hnext
      · refine lv_tableIn (x := 3) (tgt := 328) hx hb d_LW_law_39 (by decide) (by decide) rfl (by decide) ?_
        exact lw_kern l hl9 hL C0 G hK hz A hA9 pm out n hn L f M S hI H locs hP hD hS ls hl hnext
      · refine lv_tableIn (x := 4) (tgt := 384) hx hb d_LW_law_39 (by decide) (by decide) rfl (by decide) ?_
        exact lw_penalty l hl9 hL C0 G hK hz A hA9 pm out n hn L f M S hI H locs hP hD hS ls hl hnext
      · refine lv_tableIn (x := 5) (tgt := 440) hx hb d_LW_law_39 (by decide) (by decide) rfl (by decide) ?_
        exact lw_items l hl9 hL C0 G hK hz A hA9 pm out n hn L f M S hI H locs hP hD hS ls hl hnext
      · refine lv_tableIn (x := 6) (tgt := 453) hx hb d_LW_law_39 (by decide) (by decide) rfl (by decide) ?_
        exact lw_pages l hl9 hL C0 G hK hz A hA9 pm out n hn L f M S hI H locs hP hD hS ls hl hnext
      · refine lv_tableIn (x := 7) (tgt := 466) hx hb d_LW_law_39 (by decide) (by decide) rfl (by decide) ?_
        exact lw_page l hl9 hL C0 G hK hz A hA9 pm out n hn L f M S hI H locs hP hD hS ls hl hnext
      · refine lv_tableIn (x := 8) (tgt := 533) hx hb d_LW_law_39 (by decide) (by decide) rfl (by decide) ?_
        exact lw_stands l hl9 hL C0 G hK hz A hA9 pm out n hn L f M S hI H locs hP hD hS ls hl hnext
      · refine lv_tableIn (x := 9) (tgt := 600) hx hb d_LW_law_39 (by decide) (by decide) rfl (by decide) ?_
        exact lw_where l hl9 hL C0 G hK hz A hA9 pm out n hn L f M S hI H locs hP hD hS ls hl hnext
      · refine lv_tableIn (x := 10) (tgt := 656) hx hb d_LW_law_39 (by decide) (by decide) rfl (by decide) ?_
        exact lw_open l hl9 hL C0 G hK hz A hA9 pm out n hn L f M S hI H locs hP hD hS ls hl hnext
      · refine lv_tableOut (tgt := 711) hx hb d_LW_law_39 (Or.inr (by decide)) (by decide) ?_
        refine W.widen (k := 22 + 2 * (n + 1) + 7 * S.2.2.1.length) (n := 24067 + 904 * (n + 1) + 933 * S.2.2.1.length) (by omega) (by omega) ?_
        exact hnext L f M S H locs ls ⟨hI.1, hI.2.1, hI.2.2.1, hI.2.2.2.1, Nat.le_succ_of_le hI.2.2.2.2⟩ hP hD hS hl
      · refine lv_tableOut (tgt := 711) hx hb d_LW_law_39 (Or.inr (by decide)) (by decide) ?_
        refine W.widen (k := 22 + 2 * (n + 1) + 7 * S.2.2.1.length) (n := 24067 + 904 * (n + 1) + 933 * S.2.2.1.length) (by omega) (by omega) ?_
        exact hnext L f M S H locs ls ⟨hI.1, hI.2.1, hI.2.2.1, hI.2.2.2.1, Nat.le_succ_of_le hI.2.2.2.2⟩ hP hD hS hl
      · refine lv_tableOut (tgt := 711) hx hb d_LW_law_39 (Or.inr (by decide)) (by decide) ?_
        refine W.widen (k := 22 + 2 * (n + 1) + 7 * S.2.2.1.length) (n := 24067 + 904 * (n + 1) + 933 * S.2.2.1.length) (by omega) (by omega) ?_
        exact hnext L f M S H locs ls ⟨hI.1, hI.2.1, hI.2.2.1, hI.2.2.2.1, Nat.le_succ_of_le hI.2.2.2.2⟩ hP hD hS hl
      · refine lv_tableOut (tgt := 711) hx hb d_LW_law_39 (Or.inr (by decide)) (by decide) ?_
        refine W.widen (k := 22 + 2 * (n + 1) + 7 * S.2.2.1.length) (n := 24067 + 904 * (n + 1) + 933 * S.2.2.1.length) (by omega) (by omega) ?_
        exact hnext L f M S H locs ls ⟨hI.1, hI.2.1, hI.2.2.1, hI.2.2.2.1, Nat.le_succ_of_le hI.2.2.2.2⟩ hP hD hS hl
      · refine lv_tableOut (tgt := 711) hx hb d_LW_law_39 (Or.inr (by decide)) (by decide) ?_
        refine W.widen (k := 22 + 2 * (n + 1) + 7 * S.2.2.1.length) (n := 24067 + 904 * (n + 1) + 933 * S.2.2.1.length) (by omega) (by omega) ?_
        exact hnext L f M S H locs ls ⟨hI.1, hI.2.1, hI.2.2.1, hI.2.2.2.1, Nat.le_succ_of_le hI.2.2.2.2⟩ hP hD hS hl
set_option maxHeartbeats 4000000 in
set_option maxRecDepth 100000 in
/-- the law, from its entry -/
theorem whole_start {p : Program} {e : Env} {s : State} {m : MethodId} {below : List Frame} {meth : Method} {c : Code} (l : Launch) (hl9 : l.stackTraces = false) {b Ln : Nat} {xs : Nat → Int32} (hL : Ln ≤ 2560) (C0 : lw_At p s m meth c b Ln xs) : W p l e room_1 s m #[Value.ref b] below meth c s.heap [] 0 0 (lw_Z below #[Value.ref b] s) (entryFrame m ([Value.ref b] : List Value).toArray 8) := by
  obtain ⟨hx, hb, hr, hml, hown, hts0, hX, hbl, hlocks, hgv⟩ := id C0
  have hA : ∀ q : Nat, s.heap.size ≤ q → (fun q : Nat => s.heap.size ≤ q) q := fun _ h => h
  have hbA : ¬ (fun q : Nat => s.heap.size ≤ q) b := Nat.not_le.mpr hbl
  have htb : ∀ w ∈ TB, w.before #[Value.ref b] s = true := fun w h => hts0 w (List.mem_filter.mp h).1
  have hts : ∀ w ∈ (Cond.initialized "PageMaker" :: TB), w.before #[Value.ref b] s = true := fun w h => (List.mem_cons.mp h).elim (fun e9 => e9 ▸ htb _ tw_1) (htb w)
  obtain ⟨G, hK, hz⟩ := law_G hts0 hgv
  have hS : va_S (fun q : Nat => s.heap.size ≤ q) s.heap s.heap [] := va_S.rf
  have hP : va_P (gD G) cls9 ([] ++ va_pl [] (fun _ => .inr (0, []))) s.heap := fun k q h => by simp [va_pl] at h
  have hD : va_D (fun q : Nat => s.heap.size ≤ q) ([] ++ va_pl [] (fun _ => .inr (0, []))) := ⟨fun i j p q h => by simp [va_pl] at h, fun k q h => by simp [va_pl] at h⟩
  have hl := lv_entry ([.ref b]) (n := 8) (Nat.le_of_ble_eq_true rfl)
  rw [lg_entry_eq]
  generalize (lg_sl ([.ref b]) ++ List.replicate (8 - (lg_sl ([.ref b])).length) Slot.unset).toArray = ls at hl ⊢
  have hl : lv_has ls 8 [(0, .ref b)] := hl
  refine pz_new (ci := 4) (fs := [.null, .null, .null, .null]) (C := "PageMaker") (T := T_PM) (N := 4) hx hb htb in_PM ty_PM to_PM hown (htb _ tw_27) (htb _ tw_28) (htb _ tw_1) hK hP hD hS hA rfl (fun j hj => by rcases (show j = 0 ∨ j = 1 ∨ j = 2 ∨ j = 3 by omega) with rfl | rfl | rfl | rfl <;> rfl) (Nat.le_of_ble_eq_true rfl) (Nat.le_of_ble_eq_true rfl) d_LW_law_0 (fun q1 L2 f3 H hnq1 eL2 ef3 hP hD hS => ?_)
  subst L2
  refine lv_dup hx hb d_LW_law_3 rfl ?_
  have hfp : f3 q1 = .inr (4, [.null, .null, .null, .null]) := by rw [ef3]; exact va_up_self _ _ _
  refine pz_cv (va_runI (As := []) (rest := [.ref q1]) ⟨hx, hb, hml, hown, hts⟩ (c_PM_init l G ([] ++ [q1]) f3 _ q1 (List.mem_singleton.mpr rfl) hfp) (cwI 0 hts (tb_good tw_31) rfl rfl rfl (htb _ tw_1) (htb _ tw_29) (htb _ tw_30) rfl (by decide +kernel) ⟨(Nat.le_of_ble_eq_true rfl), (Nat.le_of_ble_eq_true rfl)⟩) (pz_pre (zz_ok _ _ _) hK hP hD hS hA hz) rfl rfl hl.1 rfl (lv_room (Nat.le_of_ble_eq_true rfl)) d_LW_law_4 ⟨(by show _ ≤ 601024; omega), (by show _ ≤ 7293034; omega)⟩) hP hD hS hA (fun L f H locs hw hP hD hS => ?_)
  obtain ⟨al, el, fr, op, to, sa, hR⟩ := hw
  refine lv_astore_n (lv' := [(1, .ref q1), (0, .ref b)]) hx hb d_LW_law_7 rfl hl (by decide) rfl (fun ls hl => ?_)
  have hP : va_P (gD G) cls9 (va_pl L f ++ va_pl [] (fun _ => .inr (0, []))) H := by rw [show va_pl [] (fun _ => .inr (0, [])) = [] from rfl, List.append_nil]; exact hP
  have hD : va_D (fun q : Nat => s.heap.size ≤ q) (va_pl L f ++ va_pl [] (fun _ => .inr (0, []))) := by rw [show va_pl [] (fun _ => .inr (0, [])) = [] from rfl, List.append_nil]; exact hD
  refine pz_new (ci := 10) (fs := [.int 0, .null, .null, .null, .null, .null, .int 0, .int 0, .int 0, .int 0, .null, .null, .null, .null, .null, .null, .null, .int 0, .int 0, .int 0, .int 0, .int 0, .long 0, .long 0, .null, .long 0]) (C := "PageMakerModel") (T := T_MD) (N := 26) hx hb htb in_MD ty_MD to_MD hown (htb _ tw_672) (htb _ tw_673) (htb _ tw_8) hK hP hD hS hA rfl (fun j hj => by rcases (show j = 0 ∨ j = 1 ∨ j = 2 ∨ j = 3 ∨ j = 4 ∨ j = 5 ∨ j = 6 ∨ j = 7 ∨ j = 8 ∨ j = 9 ∨ j = 10 ∨ j = 11 ∨ j = 12 ∨ j = 13 ∨ j = 14 ∨ j = 15 ∨ j = 16 ∨ j = 17 ∨ j = 18 ∨ j = 19 ∨ j = 20 ∨ j = 21 ∨ j = 22 ∨ j = 23 ∨ j = 24 ∨ j = 25 by omega) with rfl | rfl | rfl | rfl | rfl | rfl | rfl | rfl | rfl | rfl | rfl | rfl | rfl | rfl | rfl | rfl | rfl | rfl | rfl | rfl | rfl | rfl | rfl | rfl | rfl | rfl <;> rfl) (Nat.le_of_ble_eq_true rfl) (Nat.le_of_ble_eq_true rfl) d_LW_law_8 (fun q4 L5 f6 H hnq4 eL5 ef6 hP hD hS => ?_)
  subst L5
  refine lv_dup hx hb d_LW_law_11 rfl ?_
  have hfm : f6 q4 = .inr (10, [.int 0, .null, .null, .null, .null, .null, .int 0, .int 0, .int 0, .int 0, .null, .null, .null, .null, .null, .null, .null, .int 0, .int 0, .int 0, .int 0, .int 0, .long 0, .long 0, .null, .long 0]) := by rw [ef6]; exact va_up_self _ _ _
  refine pz_cv (va_runI (As := []) (rest := [.ref q4]) ⟨hx, hb, hml, hown, hts⟩ (c_MD_init l G ([] ++ [q4]) f6 _ q4 (List.mem_singleton.mpr rfl) rfl hfm) (cwI 0 hts (tb_good tw_676) rfl rfl rfl (htb _ tw_8) (htb _ tw_674) (htb _ tw_675) rfl (by decide +kernel) ⟨(Nat.le_of_ble_eq_true rfl), (Nat.le_of_ble_eq_true rfl)⟩) (pz_pre (zz_ok _ _ _) hK hP hD hS hA hz) rfl rfl hl.1 rfl (lv_room (Nat.le_of_ble_eq_true rfl)) d_LW_law_12 ⟨(by show _ ≤ 601024; omega), (by show _ ≤ 7293034; omega)⟩) hP hD hS hA (fun L8 f8 H locs hw hP hD hS => ?_)
  obtain ⟨A, hA9, hA0, eL8, hf8⟩ := hw
  have epl : va_pl L8 f8 = va_pl (LM A) (mF G A M_0) := by rw [show L8 = LM A from eL8]; exact List.map_congr_left (fun z hz9 => by rw [show f8 z = mF G A M_0 z from hf8 z hz9])
  rw [epl] at hP hD
  have hP : va_P (gD G) cls9 (va_pl (LM A) (mF G A M_0) ++ va_pl L f) H := va_P.swap (a := []) hP
  have hD : va_D (fun q : Nat => s.heap.size ≤ q) (va_pl (LM A) (mF G A M_0) ++ va_pl L f) := va_D.swap (a := []) hD
  refine lv_astore_n (lv' := [(2, .ref q4), (1, .ref q1), (0, .ref b)]) hx hb d_LW_law_15 rfl hl (by decide) rfl (fun ls hl => ?_)
  have hl : lv_has ls 8 [(2, .ref (A 0)), (1, .ref q1), (0, .ref b)] := by rw [hA0]; exact hl
  refine lv_iconst (v := 1) hx hb d_LW_law_16 (by decide) ?_
  refine pz_newl hx hb (htb _ tw_121) hK hP hD hS hA 1 rfl 1 (by decide) (by decide) (by decide) (Nat.le_of_ble_eq_true rfl) (Nat.le_of_ble_eq_true rfl) d_LW_law_17 (fun q7 L8 f9 H hnq7 eL8 ef9 hP hD hS => ?_)
  subst L8
  have hno : q7 ∉ L := hnq7
  have hP : va_P (gD G) cls9 (va_pl (LM A) (mF G A M_0) ++ va_pl (q7 :: L) f9) H := law_front hP
  have hD : va_D (fun q : Nat => s.heap.size ≤ q) (va_pl (LM A) (mF G A M_0) ++ va_pl (q7 :: L) f9) := law_frontD hD
  refine lv_astore_n (lv' := [(3, .ref q7), (2, .ref (A 0)), (1, .ref q1), (0, .ref b)]) hx hb d_LW_law_19 rfl hl (by decide) rfl (fun ls hl => ?_)
  refine lv_iconst (v := 0) hx hb d_LW_law_20 (by decide) ?_
  refine lv_istore (lv' := [(4, .int 0), (3, .ref q7), (2, .ref (A 0)), (1, .ref q1), (0, .ref b)]) hx hb d_LW_law_21 hl (by decide) rfl (fun ls hl => ?_)
  have hR3 : RX G L f9 q1 al G.2.2.1 el G.2.2.1 fr op to sa fr [] [] c_0 := rx_congr (fun z hz9 => by rw [ef9]; exact va_up_ne _ _ (Ne.symm (pz_nef hno hz9))) hR
  have ho3 : f9 q7 = .inl (cJ G, 1, .inr (.inl (fun _ => 0))) := by rw [ef9]; exact va_up_self _ _ _
  refine W.widen (k := 22 + 2 * 0 + 7 * c_0.2.2.1.length) (n := 24067 + 904 * 0 + 933 * c_0.2.2.1.length) (Nat.le_of_ble_eq_true rfl) (Nat.le_of_ble_eq_true rfl) ?_
  exact law_loop l hl9 hL C0 G hK hz A hA9 q1 q7 513 0 L f9 M_0 c_0 H locs ls (by omega) (by omega) ⟨⟨al, G.2.2.1, el, G.2.2.1, fr, op, to, sa, fr, [], [], hR3⟩, ⟨_, ho3⟩, j_0, mr_0, Nat.le_refl _⟩ hP hD hS (lv_sub hl [4, 3, 2, 1, 0] rfl)
