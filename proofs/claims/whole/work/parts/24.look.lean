/-! PageMaker: takeIn, endOpenPage, lookFrom -/
theorem yr_el {L : List Nat} {f : Nat → va_E} {ys : List Nat} {pgs : List (Fr × Pg)} (h : YR L f ys pgs) {i y : Nat} (hy : ys[i]? = some y) : elOK L f y := by
  obtain ⟨h1, h2⟩ := h
  have hi : i < ys.length := (List.getElem?_eq_some_iff.mp hy).1
  obtain ⟨h3, z, h4, h5, h6⟩ := h2 i y _ hy (List.getElem?_eq_getElem (by omega))
  exact ⟨h3, _, _, h6, by decide⟩
theorem rz_sub {f : Nat → va_E} {G : gG} {L L1 : List Nat} {d d1 : Nat} {ys : List Nat} (h : (ys ≠ [] ∧ d1 = d ∧ d ∈ L ∧ L1 = L ∧ ∃ (cap : Nat) (a : Nat → Option Nat), f d = .inl (cO G, cap, .inr (.inr (.inr (.inr a))))) ∨ (d1 ∉ L ∧ L1 = L ++ [d1])) : ∀ z, z ∈ L → z ∈ L1 := by
  intro z hz
  rcases h with ⟨-, -, -, rfl, -⟩ | ⟨-, rfl⟩
  · exact hz
  · exact List.mem_append_left _ hz
theorem rz_nd {f : Nat → va_E} {G : gG} {L L1 : List Nat} {d d1 z : Nat} {ys : List Nat} (h : (ys ≠ [] ∧ d1 = d ∧ d ∈ L ∧ L1 = L ∧ ∃ (cap : Nat) (a : Nat → Option Nat), f d = .inl (cO G, cap, .inr (.inr (.inr (.inr a))))) ∨ (d1 ∉ L ∧ L1 = L ++ [d1])) (hz : z ∈ L) (ht : tg (f z) ≠ 104) : z ≠ d1 := by
  rcases h with ⟨-, rfl, -, -, cap, a, h⟩ | ⟨h, -⟩
  · exact tg_ne rfl (by rw [h]; rfl) ht
  · exact Ne.symm (pz_nef h hz)
/-- the other list keeps what it holds when one is added to -/
theorem rz_al {G : gG} {L L2 L4 L6 : List Nat} {f f3 f4 f7 : Nat → va_E} {al ad el ed d4 : Nat} {xs ys : List Nat} (hdd : xs ≠ [] → ys ≠ [] → ad ≠ ed) (h_al : LR G L f al ad xs) (h_el : LR G L f el ed ys) (h_el3 : LR G L2 f3 el ed ys) (hne9 : al ≠ el) (hd4 : (ys ≠ [] ∧ d4 = ed ∧ ed ∈ L2 ∧ L4 = L2 ∧ ∃ (cap : Nat) (a : Nat → Option Nat), f3 ed = .inl (cO G, cap, .inr (.inr (.inr (.inr a))))) ∨ (d4 ∉ L2 ∧ L4 = L2 ++ [d4])) (hsub2 : ∀ z, z ∈ L → z ∈ L2) (hsub7 : ∀ z, z ∈ L → z ∈ L6) (hold3 : ∀ z, z ∈ L → f3 z = f z) (hk4 : ∀ z, z ≠ el → z ≠ d4 → f4 z = f3 z) (h7 : ∀ z, z ∈ L → tg (f z) ≠ 4 → f7 z = f4 z) : LR G L6 f7 al ad xs := by
  refine lr_keep2 h_al hsub7 ?_ ?_
  · have t := lr_tg h_al
    exact (h7 _ t.1 (by rw [t.2]; decide)).trans ((hk4 _ hne9 (rz_nd hd4 (hsub2 _ t.1) (by rw [hold3 _ t.1, t.2]; decide))).trans (hold3 _ t.1))
  · intro hxs hd ht
    have h1 : ad ≠ el := tg_ne ht (lr_tg h_el).2 (by decide)
    have h2 : ad ≠ d4 := by
      rcases hd4 with ⟨hys, rfl, -⟩ | ⟨h, -⟩
      · exact hdd hxs hys
      · exact Ne.symm (pz_nef h (hsub2 _ hd))
    exact (h7 _ hd (by rw [ht]; decide)).trans ((hk4 _ h1 h2).trans (hold3 _ hd))
theorem rz_dd {G : gG} {L L2 L4 : List Nat} {f f3 : Nat → va_E} {al ad ed d4 q : Nat} {xs ys : List Nat} (hdd : xs ≠ [] → ys ≠ [] → ad ≠ ed) (h_al : LR G L f al ad xs) (hd4 : (ys ≠ [] ∧ d4 = ed ∧ ed ∈ L2 ∧ L4 = L2 ∧ ∃ (cap : Nat) (a : Nat → Option Nat), f3 ed = .inl (cO G, cap, .inr (.inr (.inr (.inr a))))) ∨ (d4 ∉ L2 ∧ L4 = L2 ++ [d4])) (hsub2 : ∀ z, z ∈ L → z ∈ L2) : xs ≠ [] → ys ++ [q] ≠ [] → ad ≠ d4 := by
  intro hxs _
  rcases hd4 with ⟨hys, rfl, -⟩ | ⟨h, -⟩
  · exact hdd hxs hys
  · obtain ⟨mo, h1, h2, h3⟩ := h_al
    rcases h3 with ⟨h3, -⟩ | ⟨-, h3, -⟩
    · exact absurd h3 hxs
    · exact Ne.symm (pz_nef h (hsub2 _ h3))
theorem yr_snoc {L : List Nat} {f : Nat → va_E} {ys : List Nat} {pgs : List (Fr × Pg)} {q z : Nat} {F : Fr} {g : Pg} (h : YR L f ys pgs) (hq : q ∈ L) (hz : z ∈ L) (hfz : f z = frE F) (hfq : f q = pgE z g) : YR L f (ys ++ [q]) (pgs ++ [(F, g)]) := by
  refine ⟨by rw [List.length_append, List.length_append, h.1]; rfl, fun i y pg h1 h2 => ?_⟩
  by_cases hi : i < ys.length
  · rw [List.getElem?_append_left hi] at h1
    rw [List.getElem?_append_left (by rw [← h.1]; exact hi)] at h2
    exact h.2 i y pg h1 h2
  · have hl : i < (ys ++ [q]).length := (List.getElem?_eq_some_iff.mp h1).1
    rw [List.length_append, List.length_singleton] at hl
    have e : i = ys.length := by omega
    subst e
    rw [List.getElem?_append_right (Nat.le_refl _), Nat.sub_self] at h1
    rw [List.getElem?_append_right (by rw [h.1]; exact Nat.le_refl _), h.1, Nat.sub_self] at h2
    cases h1
    cases h2
    exact ⟨hq, z, hz, hfz, hfq⟩
theorem k_nitem {k n : Nat} (hk : k < 2 ^ 31) (hn : n < 2 ^ 31) (h : ¬ (0 ≤ nI k ∧ nI k < nI n)) : n ≤ k := by
  rcases Nat.lt_or_ge k n with h1 | h1
  · exact absurd ⟨nI_pos' hk, nI_lt h1 hn⟩ h
  · exact h1
theorem k_fuel {n : Nat} (hn : n + 1 ≤ 4004001) : ¬ (4004001 : Int32) ≤ nI (4004001 - (n + 1)) := by
  rw [show (4004001 : Int32) = nI 4004001 from rfl]
  exact nI_ge (by omega) (by omega)
theorem k_inc {n : Nat} (hn : n + 1 ≤ 4004001) : nI (4004001 - (n + 1)) + 1 = nI (4004001 - n) := by
  rw [show 4004001 - n = (4004001 - (n + 1)) + 1 by omega]
  exact nI_1 _
theorem k_rc {p0 n q : Nat} (h : n ≤ q) : 7 * (n - p0) + 0 ≤ 7 * (q - p0) := by omega
theorem k_rs {p0 n q : Nat} (h : n ≤ q) : 933 * (n - p0) + 0 ≤ 933 * (q - p0) := by omega
theorem k_room7 {p0 n q : Nat} (h0 : p0 ≤ n) (h : n + 1 ≤ q) : 7 * (n - p0) + 7 ≤ 7 * (q - p0) := by omega
theorem k_room9 {p0 n q : Nat} (h0 : p0 ≤ n) (h : n + 1 ≤ q) : 933 * (n - p0) + 933 ≤ 933 * (q - p0) := by omega
theorem c_step_mono (S : CS) (k : Nat) (it : It) : S.2.2.1.length ≤ (c_step S k it).1.2.2.1.length := by
  rw [c_step]
  split
  · exact Nat.le_trans (Nat.le_add_right _ _) (Nat.le_of_eq List.length_append.symm)
  · exact Nat.le_refl _
theorem c_run_mono (n : Nat) : ∀ (S : CS) (k : Nat), S.2.2.1.length ≤ (c_run n S k).1.2.2.1.length := by
  induction n with
  | zero => exact fun S k => Nat.le_refl _
  | succ n ih =>
    intro S k
    rw [c_run.eq_def]
    simp only []
    cases S.1[k]? with
    | none => exact Nat.le_refl _
    | some it => exact Nat.le_trans (c_step_mono S k it) (ih _ _)
theorem cN_nI {n : Nat} (h : n < 2 ^ 31) : cN (nI n) = n := nI_clamp h
theorem c_step_end {S : CS} {k : Nat} {it : It} {a b : Nat} {b0 b1 : Int32} (h : (c_lk S k it).1 = true) (ha : (c_put S (c_lk S k it).2).2.2.2.2.1.1 = nI a) (hb : (c_put S (c_lk S k it).2).2.2.2.2.1.2.2.1 = nI b) (hx : (c_put S (c_lk S k it).2).1[a]? = some (.inl (b0, b1))) (hab : a ≤ b) (hbn : b ≤ (c_put S (c_lk S k it).2).1.length) (hn : S.1.length ≤ 512) : c_step S k it = (c_end (c_put S (c_lk S k it).2) a b, b) := by
  have hbn : b ≤ S.1.length := hbn
  have e1 : cN (c_lk S k it).2.1 = a := by rw [show (c_lk S k it).2.1 = nI a from ha]; exact cN_nI (by omega)
  have e2 : cN (c_lk S k it).2.2.2.1 = b := by rw [show (c_lk S k it).2.2.2.1 = nI b from hb]; exact cN_nI (by omega)
  rw [c_step, if_pos h, e1, e2]
/-- breakEndsPage over the representation -/
theorem r_PM_break (l : Launch) (G : gG) (L : List Nat) (f : Nat → va_E) (sz : Nat) (pm al ad el ed fr op to sa fo : Nat) (xs ys : List Nat) (its : List It) (F9 : Fr) (pgs : List (Fr × Pg)) (F : Fr) (P : Op) (T : Tt) (k x : Nat) (it : It) (hR : RX G L f pm al ad el ed fr op to sa fo xs ys (its, F9, pgs, F, P, T)) (hk : k < its.length) (hx9 : xs[k]? = some x) (hi9 : its[k]? = some it) (hn5 : its.length ≤ 512) : mI l y_PM_breakEndsPage w_PM_breakEndsPage ({ frames := 3, cells := 0, slots := 0, locals := 73 }) G L f sz [.ref pm, .int (nI k), .ref x] 0 0 (fun r u => (r = 1 ∨ r = 0) ∧ (r = 1 ↔ (c_lk (its, F9, pgs, F, P, T) k it).1 = true) ∧ u.1 = L ∧ RX G L u.2 pm al ad el ed fr op to sa fo xs ys (c_put (its, F9, pgs, F, P, T) (c_lk (its, F9, pgs, F, P, T) k it).2)) := by
  obtain ⟨hp, hfp, h_al, h_el, hne9, hdd, hX, hY, hr9, hfr, ho, hfo, ht, hft, hs9, hsa, hr8, hfof⟩ := id hR
  refine mI_mono (c_PM_breakEndsPage l G L f sz pm al ad el ed fr op to sa fo xs its F F9 P T k x it hp hfp h_al hX hr9 hfr ho hfo ht hft hs9 hsa hr8 hfof hk hx9 hi9 hn5) (fun r u hu => ?_)
  obtain ⟨h1, h2, rfl⟩ := hu
  refine ⟨h1, h2, rfl, rx_upd hR (va_up_self _ _ _) ?_ ?_ (Or.inl ⟨rfl, rfl⟩) (fun z z1 _ _ => va_up_ne _ _ z1)⟩
  · exact (va_up_ne _ _ (pz_nec hft hfo (by decide))).trans hft
  · exact (va_up_ne _ _ (pz_nea hsa hfo)).trans hsa
set_option maxHeartbeats 4000000 in
set_option maxRecDepth 100000 in
/-- takeIn(k, x) -/
theorem c_PM_takeIn (l : Launch) (G : gG) (L : List Nat) (f : Nat → va_E) (sz : Nat) (pm al ad el ed fr op to sa fo : Nat) (xs ys : List Nat) (its : List It) (F9 : Fr) (pgs : List (Fr × Pg)) (F : Fr) (P : Op) (T : Tt) (k x : Nat) (it : It) (hR : RX G L f pm al ad el ed fr op to sa fo xs ys (its, F9, pgs, F, P, T)) (hx9 : xs[k]? = some x) (hi9 : its[k]? = some it) : mV l y_PM_takeIn w_PM_takeIn ({ frames := 4, cells := 0, slots := 0, locals := 106 }) G L f sz [.ref pm, .int (nI k), .ref x] 0 0 (fun u => u.1 = L ∧ ∃ fo1, RX G L u.2 pm al ad el ed fr op to sa fo1 xs ys (c_tk (its, F9, pgs, F, P, T) k it)) := by
  refine pz_met (cc := prog_1_method_21_code) (maxL := 4) (ret := none) (by decide) rfl (Nat.le_of_ble_eq_true rfl) ?_
  intro p e s m below meth c ls hx hb hr hml hts hown hlocks hin hsz hK hP hD hS hA hz hl
  have htb : ∀ w ∈ TB, w.before _ s = true := fun w h => hts w (List.mem_cons_of_mem _ h)
  have hl : lv_has ls 4 [(0, .ref pm), (1, .int (nI k)), (2, .ref x)] := hl
  obtain ⟨hp, hfp, h_al, h_el, hne9, hdd, hX, hY, hr9, hfr, ho, hfo, ht, hft, hs9, hsa, hr8, hfof⟩ := id hR
  have hX : XR L f xs its := hX
  have hY : YR L f ys pgs := hY
  have hfr : f fr = frE F9 := hfr
  have hfo : f op = opE to fo P := hfo
  have hft : f to = toE sa T := hft
  have hsa : f sa = saE G T := hsa
  have hfof : f fo = frE F := hfof
  obtain ⟨mo_al, hm_al, hc_al, -⟩ := id h_al
  obtain ⟨hxL, hfx, hok⟩ := hX.2 k x it hx9 hi9
  refine lv_aload_n hx hb d_PM_takeIn_0 rfl (lv_at hl 0 rfl) ?_
  refine pz_get (ci := 4) (C := "PageMaker") (T := T_PM) (N := 4) hx hb htb in_PM hown hK hP hp hfp rfl 3 (by decide) (htb _ tw_163) (fun _ h9 => h9) rfl d_PM_takeIn_1 ?_
  refine vp_callSi (va_Run.run (va_runV (As := []) (rest := []) ⟨hx, hb, hml, hown, hts⟩ (c_OP_hasBegun l G L f _ op to fo P.1 P.2.2.1 P.2.2.2.1 P.2.2.2.2.1 P.2.2.2.2.2 P.2.1 ho hfo) (cwV 0 hts (tb_V tw_409 tw_410 tw_411 tw_6 tw_412) rfl rfl rfl (by decide +kernel) ⟨(Nat.le_of_ble_eq_true rfl), (Nat.le_of_ble_eq_true rfl)⟩) (pz_preV (zz_ok _ _ _) hK hP hD hS hA hz (ci := 2) rfl rfl ho hfo) rfl rfl hl.1 rfl (lv_room (Nat.le_of_ble_eq_true rfl)) d_PM_takeIn_4 ⟨(Nat.le_of_ble_eq_true rfl), (Nat.le_of_ble_eq_true rfl)⟩)) (fun r1 hw => ?_)
  rcases (show k_b (¬ P.1 = (-1)) r1 from hw) with ⟨rfl, hq2⟩ | ⟨rfl, hq2⟩
  · refine lv_if_eq (tgt := 21) hx hb d_PM_takeIn_7 (by decide) (fun c0 => absurd c0 (by decide)) (fun _ => ?_)
    refine lv_aload_n hx hb d_PM_takeIn_10 rfl (lv_at hl 0 rfl) ?_
    refine pz_get (ci := 4) (C := "PageMaker") (T := T_PM) (N := 4) hx hb htb in_PM hown hK hP hp hfp rfl 3 (by decide) (htb _ tw_163) (fun _ h9 => h9) rfl d_PM_takeIn_11 ?_
    refine lv_aload_n hx hb d_PM_takeIn_14 rfl (lv_at hl 2 rfl) ?_
    refine pz_cv (va_runV (As := [.ref x]) (rest := []) ⟨hx, hb, hml, hown, hts⟩ (c_OP_add l G L f _ op to sa fo x P T F it ho hfo ht hft hs9 hsa hr8 hfof hxL hfx hok) (cwV 1 hts (tb_V tw_529 tw_530 tw_531 tw_6 tw_532) rfl rfl rfl (by decide +kernel) ⟨(Nat.le_of_ble_eq_true rfl), (Nat.le_of_ble_eq_true rfl)⟩) (pz_preV (zz_ok _ _ _) hK hP hD hS hA hz (ci := 2) rfl rfl ho hfo) rfl rfl hl.1 rfl (lv_room (Nat.le_of_ble_eq_true rfl)) d_PM_takeIn_15 ⟨(Nat.le_of_ble_eq_true rfl), (Nat.le_of_ble_eq_true rfl)⟩) hP hD hS hA (fun L4 f3 H locs hw hP hD hS => ?_)
    have ef3 : f3 = va_up (va_up (va_up (f) op (opE to fo (P.1, T.1, P.2.2))) to (toE sa (t_add it F.2.2 T))) sa (saE G (t_add it F.2.2 T)) := (Prod.mk.inj hw).2
    have eL4 : L4 = L := (Prod.mk.inj hw).1
    subst L4
    obtain ⟨f5, ef5⟩ : ∃ y, y = va_up f op (opE to fo (P.1, T.1, P.2.2)) := ⟨_, rfl⟩
    rw [← ef5] at ef3
    obtain ⟨f6, ef6⟩ : ∃ y, y = va_up f5 to (toE sa (t_add it F.2.2 T)) := ⟨_, rfl⟩
    rw [← ef6] at ef3
    refine lv_goto (tgt := 46) hx hb d_PM_takeIn_18 (by decide) ?_
    have ez : ∀ z, z ≠ op → z ≠ to → z ≠ sa → f3 z = f z := fun z z1 z2 z3 => by rw [ef3, va_up_ne _ _ z3, ef6, va_up_ne _ _ z2, ef5, va_up_ne _ _ z1]
    have e1 : f3 op = opE to fo (P.1, T.1, P.2.2) := by rw [ef3, va_up_ne _ _ (Ne.symm (pz_nea hsa hfo)), ef6, va_up_ne _ _ (Ne.symm (pz_nec hft hfo (by decide))), ef5]; exact va_up_self _ _ _
    have e2 : f3 to = toE sa (t_add it F.2.2 T) := by rw [ef3, va_up_ne _ _ (Ne.symm (pz_nea hsa hft)), ef6]; exact va_up_self _ _ _
    have e3 : f3 sa = saE G (t_add it F.2.2 T) := by rw [ef3]; exact va_up_self _ _ _
    exact pz_vret hx hb hr hlocks hK hP hD hS (Nat.le_of_ble_eq_true rfl) (Nat.le_of_ble_eq_true rfl) ⟨rfl, fo, by rw [c_tk, show c_take P T F F9 k _ = _ from if_neg hq2]; exact rx_upd hR e1 e2 e3 (Or.inl ⟨rfl, rfl⟩) ez⟩ d_PM_takeIn_46
  · refine lv_if_eq (tgt := 21) hx hb d_PM_takeIn_7 (by decide) (fun _ => ?_) (fun c0 => absurd c0 (by decide))
    refine lv_aload_n hx hb d_PM_takeIn_21 rfl (lv_at hl 2 rfl) ?_
    rcases it with ⟨ia, ib⟩ | ⟨ia, ib, io, id9⟩ | ia | ia
    · refine va_instE hx hb hown (htb _ tw_298) (pz_recv hK hP (ci := 5) rfl hxL hfx) d_PM_takeIn_22 ?_
      refine lv_if_eq (tgt := 46) hx hb d_PM_takeIn_25 (by decide) (fun c0 => absurd c0 (by decide)) (fun _ => ?_)
      refine lv_aload_n hx hb d_PM_takeIn_28 rfl (lv_at hl 2 rfl) ?_
      refine va_castE hx hb hown (htb _ tw_298) (pz_recv hK hP (ci := 5) rfl hxL hfx) d_PM_takeIn_29 ?_
      refine lv_astore_n (lv' := [(3, .ref x), (0, .ref pm), (1, .int (nI k)), (2, .ref x)]) hx hb d_PM_takeIn_32 rfl hl (by decide) rfl (fun ls hl => ?_)
      refine lv_aload_n hx hb d_PM_takeIn_33 rfl (lv_at hl 1 rfl) ?_
      refine pz_get (ci := 4) (C := "PageMaker") (T := T_PM) (N := 4) hx hb htb in_PM hown hK hP hp hfp rfl 3 (by decide) (htb _ tw_163) (fun _ h9 => h9) rfl d_PM_takeIn_34 ?_
      refine lv_iload_n hx hb d_PM_takeIn_37 rfl (lv_at hl 2 rfl) ?_
      refine lv_aload_n hx hb d_PM_takeIn_38 rfl (lv_at hl 0 rfl) ?_
      refine lv_aload_n hx hb d_PM_takeIn_39 rfl (lv_at hl 1 rfl) ?_
      refine pz_get (ci := 4) (C := "PageMaker") (T := T_PM) (N := 4) hx hb htb in_PM hown hK hP hp hfp rfl 2 (by decide) (htb _ tw_162) (fun _ h9 => h9) rfl d_PM_takeIn_40 ?_
      refine pz_cv (va_runV (As := [.int (nI k), .ref x, .ref fr]) (rest := []) ⟨hx, hb, hml, hown, hts⟩ (c_OP_begin l G L f _ op to sa fo fr x P T F F9 (nI k) ia ib ho hfo ht hft hs9 hsa hr8 hfof hr9 hfr hxL hfx) (cwV 3 hts (tb_V tw_534 tw_535 tw_536 tw_6 tw_537) rfl rfl rfl (by decide +kernel) ⟨(Nat.le_of_ble_eq_true rfl), (Nat.le_of_ble_eq_true rfl)⟩) (pz_preV (zz_ok _ _ _) hK hP hD hS hA hz (ci := 2) rfl rfl ho hfo) rfl rfl hl.1 rfl (lv_room (Nat.le_of_ble_eq_true rfl)) d_PM_takeIn_43 ⟨(Nat.le_of_ble_eq_true rfl), (Nat.le_of_ble_eq_true rfl)⟩) hP hD hS hA (fun L8 f7 H locs hw hP hD hS => ?_)
      have ef7 : f7 = va_up (va_up (va_up (f) op (opE to fr (nI k, (t_sp (k_top F9.2.1 ia) T).1, P.2.2))) to (toE sa (t_add (.inl (ia, ib)) F9.2.2 (t_sp (k_top F9.2.1 ia) T)))) sa (saE G (t_add (.inl (ia, ib)) F9.2.2 (t_sp (k_top F9.2.1 ia) T))) := (Prod.mk.inj hw).2
      have eL8 : L8 = L := (Prod.mk.inj hw).1
      subst L8
      obtain ⟨f9, ef9⟩ : ∃ y, y = va_up f op (opE to fr (nI k, (t_sp (k_top F9.2.1 ia) T).1, P.2.2)) := ⟨_, rfl⟩
      rw [← ef9] at ef7
      obtain ⟨f10, ef10⟩ : ∃ y, y = va_up f9 to (toE sa (t_add (.inl (ia, ib)) F9.2.2 (t_sp (k_top F9.2.1 ia) T))) := ⟨_, rfl⟩
      rw [← ef10] at ef7
      have ez : ∀ z, z ≠ op → z ≠ to → z ≠ sa → f7 z = f z := fun z z1 z2 z3 => by rw [ef7, va_up_ne _ _ z3, ef10, va_up_ne _ _ z2, ef9, va_up_ne _ _ z1]
      have e1 : f7 op = opE to fr (nI k, (t_sp (k_top F9.2.1 ia) T).1, P.2.2) := by rw [ef7, va_up_ne _ _ (Ne.symm (pz_nea hsa hfo)), ef10, va_up_ne _ _ (Ne.symm (pz_nec hft hfo (by decide))), ef9]; exact va_up_self _ _ _
      have e2 : f7 to = toE sa (t_add (.inl (ia, ib)) F9.2.2 (t_sp (k_top F9.2.1 ia) T)) := by rw [ef7, va_up_ne _ _ (Ne.symm (pz_nea hsa hft)), ef10]; exact va_up_self _ _ _
      have e3 : f7 sa = saE G (t_add (.inl (ia, ib)) F9.2.2 (t_sp (k_top F9.2.1 ia) T)) := by rw [ef7]; exact va_up_self _ _ _
      exact pz_vret hx hb hr hlocks hK hP hD hS (Nat.le_of_ble_eq_true rfl) (Nat.le_of_ble_eq_true rfl) ⟨rfl, fr, by rw [c_tk, show c_take P T F F9 k _ = _ from if_pos (Decidable.not_not.mp hq2)]; exact rx_upd hR e1 e2 e3 (Or.inr ⟨rfl, rfl⟩) ez⟩ d_PM_takeIn_46
    · refine va_instNo (C := "PageMaker$Glue") hx hb hown (htb _ tw_298) (hz.2.1 ("PageMaker$Glue", "PageMaker$Box") (by decide +kernel)) (pz_recv hK hP (ci := 6) rfl hxL hfx) d_PM_takeIn_22 ?_
      refine lv_if_eq (tgt := 46) hx hb d_PM_takeIn_25 (by decide) (fun _ => ?_) (fun c0 => absurd c0 (by decide))
      exact pz_vret hx hb hr hlocks hK hP hD hS (Nat.le_of_ble_eq_true rfl) (Nat.le_of_ble_eq_true rfl) ⟨rfl, fo, by rw [c_tk, show c_take P T F F9 k _ = _ from if_pos (Decidable.not_not.mp hq2)]; exact hR⟩ d_PM_takeIn_46
    · refine va_instNo (C := "PageMaker$Kern") hx hb hown (htb _ tw_298) (hz.2.1 ("PageMaker$Kern", "PageMaker$Box") (by decide +kernel)) (pz_recv hK hP (ci := 7) rfl hxL hfx) d_PM_takeIn_22 ?_
      refine lv_if_eq (tgt := 46) hx hb d_PM_takeIn_25 (by decide) (fun _ => ?_) (fun c0 => absurd c0 (by decide))
      exact pz_vret hx hb hr hlocks hK hP hD hS (Nat.le_of_ble_eq_true rfl) (Nat.le_of_ble_eq_true rfl) ⟨rfl, fo, by rw [c_tk, show c_take P T F F9 k _ = _ from if_pos (Decidable.not_not.mp hq2)]; exact hR⟩ d_PM_takeIn_46
    · refine va_instNo (C := "PageMaker$Penalty") hx hb hown (htb _ tw_298) (hz.2.1 ("PageMaker$Penalty", "PageMaker$Box") (by decide +kernel)) (pz_recv hK hP (ci := 8) rfl hxL hfx) d_PM_takeIn_22 ?_
      refine lv_if_eq (tgt := 46) hx hb d_PM_takeIn_25 (by decide) (fun _ => ?_) (fun c0 => absurd c0 (by decide))
      exact pz_vret hx hb hr hlocks hK hP hD hS (Nat.le_of_ble_eq_true rfl) (Nat.le_of_ble_eq_true rfl) ⟨rfl, fo, by rw [c_tk, show c_take P T F F9 k _ = _ from if_pos (Decidable.not_not.mp hq2)]; exact hR⟩ d_PM_takeIn_46
set_option maxHeartbeats 4000000 in
set_option maxRecDepth 100000 in
/-- endOpenPage() -/
theorem c_PM_endOpenPage (l : Launch) (G : gG) (L : List Nat) (f : Nat → va_E) (sz : Nat) (pm al ad el ed fr op to sa fo : Nat) (xs ys : List Nat) (its : List It) (F9 : Fr) (pgs : List (Fr × Pg)) (F : Fr) (P : Op) (T : Tt) (a b : Nat) (b0 b1 : Int32) (hR : RX G L f pm al ad el ed fr op to sa fo xs ys (its, F9, pgs, F, P, T)) (hPa : P.1 = nI a) (hPb : P.2.2.1 = nI b) (hbx : its[a]? = some (.inl (b0, b1))) (hab : a ≤ b) (hbn : b ≤ its.length) (hn5 : its.length ≤ 512) (hpg : pgs.length < 512) : mI l y_PM_endOpenPage w_PM_endOpenPage ({ frames := 7, cells := 7, slots := 933, locals := 171 }) G L f sz [.ref pm] 7 933 (fun r u => r = nI b ∧ ∃ ed1 op1 to1 sa1 ys1, RX G u.1 u.2 pm al ad el ed1 fr op1 to1 sa1 fr xs ys1 (c_end (its, F9, pgs, F, P, T) a b)) := by
  refine pz_met (cc := prog_1_method_22_code) (maxL := 2) (ret := (some .int)) (by decide) rfl (Nat.le_of_ble_eq_true rfl) ?_
  intro p e s m below meth c ls hx hb hr hml hts hown hlocks hin hsz hK hP hD hS hA hz hl
  have htb : ∀ w ∈ TB, w.before _ s = true := fun w h => hts w (List.mem_cons_of_mem _ h)
  have hl : lv_has ls 2 [(0, .ref pm)] := hl
  obtain ⟨hp, hfp, h_al, h_el, hne9, hdd, hX, hY, hr9, hfr, ho, hfo, ht, hft, hs9, hsa, hr8, hfof⟩ := id hR
  have hX : XR L f xs its := hX
  have hY : YR L f ys pgs := hY
  have hfr : f fr = frE F9 := hfr
  have hfo : f op = opE to fo P := hfo
  have hft : f to = toE sa T := hft
  have hsa : f sa = saE G T := hsa
  have hfof : f fo = frE F := hfof
  obtain ⟨mo_al, hm_al, hc_al, -⟩ := id h_al
  obtain ⟨mo_el, hm_el, hc_el, -⟩ := id h_el
  have hyl : ys.length = pgs.length := hY.1
  have hfo1 : f op = .inr (2, [.ref to, .ref fo, .int (nI a), .long P.2.1, .int (nI b), .int P.2.2.2.1, .int P.2.2.2.2.1, .int P.2.2.2.2.2]) := by rw [hfo, opE, hPa, hPb]
  refine lv_aload_n hx hb d_PM_endOpenPage_0 rfl (lv_at hl 0 rfl) ?_
  refine pz_get (ci := 4) (C := "PageMaker") (T := T_PM) (N := 4) hx hb htb in_PM hown hK hP hp hfp rfl 3 (by decide) (htb _ tw_163) (fun _ h9 => h9) rfl d_PM_endOpenPage_1 ?_
  refine lv_astore_n (lv' := [(1, .ref op), (0, .ref pm)]) hx hb d_PM_endOpenPage_4 rfl hl (by decide) rfl (fun ls hl => ?_)
  refine lv_aload_n hx hb d_PM_endOpenPage_5 rfl (lv_at hl 1 rfl) ?_
  refine pz_get (ci := 4) (C := "PageMaker") (T := T_PM) (N := 4) hx hb htb in_PM hown hK hP hp hfp rfl 1 (by decide) (htb _ tw_161) (fun _ h9 => h9) rfl d_PM_endOpenPage_6 ?_
  refine pz_new (ci := 9) (fs := [.null, .int 0, .int 0, .int 0, .int 0, .int 0, .long 0, .int 0, .long 0]) (C := "PageMaker$EndedPage") (T := T_EP) (N := 9) hx hb htb in_EP ty_EP to_EP hown (htb _ tw_446) (htb _ tw_447) (htb _ tw_22) hK hP hD hS hA rfl (fun j hj => by rcases (show j = 0 ∨ j = 1 ∨ j = 2 ∨ j = 3 ∨ j = 4 ∨ j = 5 ∨ j = 6 ∨ j = 7 ∨ j = 8 by omega) with rfl | rfl | rfl | rfl | rfl | rfl | rfl | rfl | rfl <;> rfl) (Nat.le_of_ble_eq_true rfl) (Nat.le_of_ble_eq_true rfl) d_PM_endOpenPage_9 (fun q1 L2 f3 H hnq1 eL2 ef3 hP hD hS => ?_)
  subst L2
  refine lv_dup hx hb d_PM_endOpenPage_12 rfl ?_
  refine lv_aload_n hx hb d_PM_endOpenPage_13 rfl (lv_at hl 0 rfl) ?_
  refine lv_aload_n hx hb d_PM_endOpenPage_14 rfl (lv_at hl 1 rfl) ?_
  refine lv_aload_n hx hb d_PM_endOpenPage_15 rfl (lv_at hl 0 rfl) ?_
  have h_4 : f3 op = .inr (2, [.ref to, .ref fo, .int (nI a), .long P.2.1, .int (nI b), .int P.2.2.2.1, .int P.2.2.2.2.1, .int P.2.2.2.2.2]) := by rw [ef3, va_up_ne _ _ (Ne.symm (pz_nef hnq1 ho))]; exact hfo1
  refine pz_get (ci := 2) (C := "PageMaker$OpenPage") (T := T_OP) (N := 8) hx hb htb in_OP hown hK hP (List.mem_append_left _ ho) h_4 rfl 1 (by decide) (htb _ tw_127) (fun _ h9 => h9) rfl d_PM_endOpenPage_16 ?_
  refine lv_aload_n hx hb d_PM_endOpenPage_19 rfl (lv_at hl 0 rfl) ?_
  refine pz_get (ci := 2) (C := "PageMaker$OpenPage") (T := T_OP) (N := 8) hx hb htb in_OP hown hK hP (List.mem_append_left _ ho) h_4 rfl 2 (by decide) (htb _ tw_130) (fun _ h9 => h9) rfl d_PM_endOpenPage_20 ?_
  refine lv_aload_n hx hb d_PM_endOpenPage_23 rfl (lv_at hl 0 rfl) ?_
  refine pz_get (ci := 2) (C := "PageMaker$OpenPage") (T := T_OP) (N := 8) hx hb htb in_OP hown hK hP (List.mem_append_left _ ho) h_4 rfl 4 (by decide) (htb _ tw_135) (fun _ h9 => h9) rfl d_PM_endOpenPage_24 ?_
  have hsub1 : ∀ z, z ∈ L → z ∈ (L ++ [q1]) := fun z hz => List.mem_append_left _ hz
  have hold1 : ∀ z, z ∈ L → f3 z = f z := fun z hz => by rw [ef3]; exact va_up_ne _ _ (Ne.symm (pz_nef hnq1 hz))
  have h_al1 : LR G (L ++ [q1]) f3 al ad xs := lr_keep2 h_al hsub1 (hold1 _ (lr_tg h_al).1) (fun _ h _ => hold1 _ h)
  have hX1 : XR (L ++ [q1]) f3 xs its := xr_keep hX hsub1 (fun z hz _ _ => hold1 z hz)
  have h_5 : f3 pm = .inr (4, [.ref al, .ref el, .ref fr, .ref op]) := by rw [ef3, va_up_ne _ _ (Ne.symm (pz_nef hnq1 hp))]; exact hfp
  refine pz_cr (va_runV (As := [.ref fo, .int (nI a), .int (nI b)]) (rest := [.ref op, .ref q1, .ref q1, .ref el]) ⟨hx, hb, hml, hown, hts⟩ (c_PM_totalsOf l G (L ++ [q1]) f3 _ pm al ad el fr op fo a b xs its F b0 b1 (hsub1 _ hp) ((hold1 _ hp).trans hfp) h_al1 hX1 (hsub1 _ hr8) ((hold1 _ hr8).trans hfof) hab hbn hn5 hbx) (cwV 3 hts (tb_V tw_448 tw_450 tp_10 tw_1 tw_451) rfl rfl rfl (by decide +kernel) ⟨(Nat.le_of_ble_eq_true rfl), (Nat.le_of_ble_eq_true rfl)⟩) (pz_preV (zz_ok _ _ _) hK hP hD hS hA hz (ci := 4) rfl rfl (List.mem_append_left _ hp) h_5) rfl rfl hl.1 rfl (lv_room (Nat.le_of_ble_eq_true rfl)) d_PM_endOpenPage_27 ⟨(Nat.le_of_ble_eq_true rfl), (Nat.le_of_ble_eq_true rfl)⟩) hP hD hS hA (fun t2 L2 f2 H locs hw hP hD hS => ?_)
  obtain ⟨hnt2, sa2, hnsa2, hts2, eL2, hft2, hfs2, hk2⟩ := hw
  have eL2 : L2 = (L ++ [q1]) ++ [t2] ++ [sa2] := eL2
  subst L2
  have hft2 : f2 t2 = toE sa2 (t_list its F a b) := hft2
  have hfs2 : f2 sa2 = saE G (t_list its F a b) := hfs2
  have hk2 : ∀ z, z ≠ t2 → z ≠ sa2 → f2 z = f3 z := hk2
  have hsub2 : ∀ z, z ∈ L → z ∈ ((L ++ [q1]) ++ [t2] ++ [sa2]) := fun z hz => List.mem_append_left _ (List.mem_append_left _ (hsub1 z hz))
  have hold2 : ∀ z, z ∈ (L ++ [q1]) → f2 z = f3 z := fun z hz => hk2 z (Ne.symm (pz_nef hnt2 hz)) (Ne.symm (pz_nef hnsa2 hz))
  have hq2 : q1 ∈ ((L ++ [q1]) ++ [t2] ++ [sa2]) := List.mem_append_left _ (List.mem_append_left _ (l_in_new _ _))
  have ht2 : t2 ∈ ((L ++ [q1]) ++ [t2] ++ [sa2]) := List.mem_append_left _ (l_in_new _ _)
  have hs2 : sa2 ∈ ((L ++ [q1]) ++ [t2] ++ [sa2]) := l_in_new _ _
  have hfq2 : f2 q1 = .inr (9, [.null, .int 0, .int 0, .int 0, .int 0, .int 0, .long 0, .int 0, .long 0]) := (hold2 _ (l_in_new _ _)).trans (by rw [ef3]; exact va_up_self _ _ _)
  have hfo2 : f2 op = opE to fo P := (hold2 _ (hsub1 _ ho)).trans ((hold1 _ ho).trans hfo)
  have hff2 : f2 fo = frE F := (hold2 _ (hsub1 _ hr8)).trans ((hold1 _ hr8).trans hfof)
  refine pz_cv (va_runI (As := [.ref op, .ref t2]) (rest := [.ref q1, .ref el]) ⟨hx, hb, hml, hown, hts⟩ (c_EP_init l G ((L ++ [q1]) ++ [t2] ++ [sa2]) f2 _ q1 op t2 sa2 to fo P (t_list its F a b) (t_list its F a b) F 0 0 0 0 0 0 0 0 hq2 hfq2 (hsub2 _ ho) hfo2 ht2 hft2 hs2 hfs2 (hsub2 _ hr8) hff2) (cwI 2 hts (tb_good tw_485) rfl rfl rfl (htb _ tw_22) (htb _ tw_483) (htb _ tw_484) rfl (by decide +kernel) ⟨(Nat.le_of_ble_eq_true rfl), (Nat.le_of_ble_eq_true rfl)⟩) (pz_pre (zz_ok _ _ _) hK hP hD hS hA hz) rfl rfl hl.1 rfl (lv_room (Nat.le_of_ble_eq_true rfl)) d_PM_endOpenPage_30 ⟨(Nat.le_of_ble_eq_true rfl), (Nat.le_of_ble_eq_true rfl)⟩) hP hD hS hA (fun L7 f6 H locs hw hP hD hS => ?_)
  have ef6 : f6 = va_up (f2) q1 (pgE fo (g_set P F.1 (t_list its F a b))) := (Prod.mk.inj hw).2
  have eL7 : L7 = ((L ++ [q1]) ++ [t2] ++ [sa2]) := (Prod.mk.inj hw).1
  subst L7
  have hold3 : ∀ z, z ∈ L → f6 z = f z := fun z hz => by rw [ef6, va_up_ne _ _ (Ne.symm (pz_nef hnq1 hz))]; exact (hold2 z (hsub1 z hz)).trans (hold1 z hz)
  have hq3 : f6 q1 = pgE fo (g_set P F.1 (t_list its F a b)) := by rw [ef6]; exact va_up_self _ _ _
  have h_el3 : LR G ((L ++ [q1]) ++ [t2] ++ [sa2]) f6 el ed ys := lr_keep2 h_el hsub2 (hold3 _ (lr_tg h_el).1) (fun _ h _ => hold3 _ h)
  have hY3 : YR ((L ++ [q1]) ++ [t2] ++ [sa2]) f6 ys pgs := yr_keep hY hsub2 (fun z hz _ => hold3 z hz)
  refine pz_ci (va_runV (As := [.ref q1]) (rest := []) ⟨hx, hb, hml, hown, hts⟩ (al_add l G ((L ++ [q1]) ++ [t2] ++ [sa2]) f6 _ el ed ys q1 h_el3 (by omega) (fun i y hy => yr_el hY3 hy) ⟨hq2, _, _, hq3, by decide⟩) (cwV 1 hts (tb_V tw_320 tw_321 tw_322 tw_4 tw_323) rfl rfl rfl (by decide +kernel) ⟨(Nat.le_of_ble_eq_true rfl), (Nat.le_of_ble_eq_true rfl)⟩) (pz_preV (zz_ok _ _ _) hK hP hD hS hA hz (ci := 0) rfl rfl (hsub2 _ hm_el) ((hold3 _ hm_el).trans hc_el)) rfl rfl hl.1 rfl (lv_room (Nat.le_of_ble_eq_true rfl)) d_PM_endOpenPage_33 ⟨(Nat.le_of_ble_eq_true rfl), (Nat.le_of_ble_eq_true rfl)⟩) hP hD hS hA (fun r4 L4 f4 H locs hw hP hD hS => ?_)
  obtain ⟨-, d4, h_el4, hd4, hk4⟩ := hw
  have h_el4 : LR G L4 f4 el d4 (ys ++ [q1]) := h_el4
  have hk4 : ∀ z, z ≠ el → z ≠ d4 → f4 z = f6 z := hk4
  have hsub4 : ∀ z, z ∈ ((L ++ [q1]) ++ [t2] ++ [sa2]) → z ∈ L4 := rz_sub hd4
  have hold4 : ∀ z, z ∈ L → tg (f z) ≠ 0 → tg (f z) ≠ 104 → f4 z = f z := fun z hz z1 z2 => (hk4 z (tg_ne rfl (lr_tg h_el).2 z1) (rz_nd hd4 (hsub2 z hz) (by rw [hold3 z hz]; exact z2))).trans (hold3 z hz)
  have hq4 : f4 q1 = pgE fo (g_set P F.1 (t_list its F a b)) := (hk4 _ (tg_ne (by rw [hq3]; rfl) (lr_tg h_el3).2 (by decide : 9 ≠ 0)) (rz_nd hd4 hq2 (by rw [hq3]; exact (by decide : 9 ≠ 104)))).trans hq3
  have hfp4 : f4 pm = .inr (4, [.ref al, .ref el, .ref fr, .ref op]) := (hold4 _ hp (by rw [hfp]; exact (by decide : 4 ≠ 0)) (by rw [hfp]; exact (by decide : 4 ≠ 104))).trans hfp
  have hfr4 : f4 fr = frE F9 := (hold4 _ hr9 (by rw [hfr]; exact (by decide : 1 ≠ 0)) (by rw [hfr]; exact (by decide : 1 ≠ 104))).trans hfr
  have hfo4 : f4 op = .inr (2, [.ref to, .ref fo, .int (nI a), .long P.2.1, .int (nI b), .int P.2.2.2.1, .int P.2.2.2.2.1, .int P.2.2.2.2.2]) := (hold4 _ ho (by rw [hfo]; exact (by decide : 2 ≠ 0)) (by rw [hfo]; exact (by decide : 2 ≠ 104))).trans hfo1
  refine lv_pop hx hb d_PM_endOpenPage_36 rfl ?_
  refine lv_aload_n hx hb d_PM_endOpenPage_37 rfl (lv_at hl 1 rfl) ?_
  refine pz_new (ci := 2) (fs := [.null, .null, .int 0, .long 0, .int 0, .int 0, .int 0, .int 0]) (C := "PageMaker$OpenPage") (T := T_OP) (N := 8) hx hb htb in_OP ty_OP to_OP hown (htb _ tw_84) (htb _ tw_85) (htb _ tw_6) hK hP hD hS hA rfl (fun j hj => by rcases (show j = 0 ∨ j = 1 ∨ j = 2 ∨ j = 3 ∨ j = 4 ∨ j = 5 ∨ j = 6 ∨ j = 7 by omega) with rfl | rfl | rfl | rfl | rfl | rfl | rfl | rfl <;> rfl) (Nat.le_of_ble_eq_true rfl) (Nat.le_of_ble_eq_true rfl) d_PM_endOpenPage_38 (fun q8 L9 f10 H hnq8 eL9 ef10 hP hD hS => ?_)
  subst L9
  refine lv_dup hx hb d_PM_endOpenPage_41 rfl ?_
  refine lv_aload_n hx hb d_PM_endOpenPage_42 rfl (lv_at hl 1 rfl) ?_
  have h_11 : f10 pm = .inr (4, [.ref al, .ref el, .ref fr, .ref op]) := by rw [ef10, va_up_ne _ _ (Ne.symm (pz_nef hnq8 (hsub4 _ (hsub2 _ hp))))]; exact hfp4
  refine pz_get (ci := 4) (C := "PageMaker") (T := T_PM) (N := 4) hx hb htb in_PM hown hK hP (List.mem_append_left _ (hsub4 _ (hsub2 _ hp))) h_11 rfl 2 (by decide) (htb _ tw_162) (fun _ h9 => h9) rfl d_PM_endOpenPage_43 ?_
  have h_12 : f10 q8 = .inr (2, [.null, .null, .int 0, .long 0, .int 0, .int 0, .int 0, .int 0]) := by rw [ef10]; exact va_up_self _ _ _
  refine pz_cv (va_runI (As := [.ref fr]) (rest := [.ref q8, .ref pm]) ⟨hx, hb, hml, hown, hts⟩ (c_OP_init l G (L4 ++ [q8]) f10 _ q8 fr 0 0 0 0 0 0 (l_in_new _ _) h_12 (List.mem_append_left _ (hsub4 _ (hsub2 _ hr9)))) (cwI 1 hts (tb_good tw_88) rfl rfl rfl (htb _ tw_6) (htb _ tw_86) (htb _ tw_87) rfl (by decide +kernel) ⟨(Nat.le_of_ble_eq_true rfl), (Nat.le_of_ble_eq_true rfl)⟩) (pz_pre (zz_ok _ _ _) hK hP hD hS hA hz) rfl rfl hl.1 rfl (lv_room (Nat.le_of_ble_eq_true rfl)) d_PM_endOpenPage_46 ⟨(Nat.le_of_ble_eq_true rfl), (Nat.le_of_ble_eq_true rfl)⟩) hP hD hS hA (fun L6 f6 H locs hw hP hD hS => ?_)
  obtain ⟨to6, sa6, hnt6, hns6, hts6, hw⟩ := hw
  have eL6 : L6 = (L4 ++ [q8]) ++ [to6] ++ [sa6] := (Prod.mk.inj hw).1
  have ef6 : f6 = va_up (va_up (va_up f10 sa6 (saE G t_0)) to6 (toE sa6 t_0)) q8 (opE to6 fr op_0) := (Prod.mk.inj hw).2
  subst L6
  have hsub6 : ∀ z, z ∈ L4 → z ∈ ((L4 ++ [q8]) ++ [to6] ++ [sa6]) := fun z hz => List.mem_append_left _ (List.mem_append_left _ (List.mem_append_left _ hz))
  have hold6 : ∀ z, z ∈ L4 → f6 z = f4 z := fun z hz => by rw [ef6, va_up_ne _ _ (Ne.symm (pz_nef hnq8 hz)), va_up_ne _ _ (Ne.symm (pz_nef hnt6 (List.mem_append_left _ hz))), va_up_ne _ _ (Ne.symm (pz_nef hns6 (List.mem_append_left _ hz))), ef10, va_up_ne _ _ (Ne.symm (pz_nef hnq8 hz))]
  have ho6 : q8 ∈ ((L4 ++ [q8]) ++ [to6] ++ [sa6]) := List.mem_append_left _ (List.mem_append_left _ (l_in_new _ _))
  have hfo6 : f6 q8 = opE to6 fr op_0 := by rw [ef6]; exact va_up_self _ _ _
  have hto6 : f6 to6 = toE sa6 t_0 := by rw [ef6, va_up_ne _ _ (pz_nef hnt6 (l_in_new _ _))]; exact va_up_self _ _ _
  have hsa6 : f6 sa6 = saE G t_0 := by rw [ef6, va_up_ne _ _ (pz_nef hns6 (l_in_new _ _)), va_up_ne _ _ (Ne.symm hts6)]; exact va_up_self _ _ _
  have hfp6 : f6 pm = .inr (4, [.ref al, .ref el, .ref fr, .ref op]) := (hold6 _ (hsub4 _ (hsub2 _ hp))).trans hfp4
  have hfo7 : f6 op = .inr (2, [.ref to, .ref fo, .int (nI a), .long P.2.1, .int (nI b), .int P.2.2.2.1, .int P.2.2.2.2.1, .int P.2.2.2.2.2]) := (hold6 _ (hsub4 _ (hsub2 _ ho))).trans hfo4
  refine pz_put (ci := 4) (v := .ref q8) (ty := .object "PageMaker$OpenPage") (C := "PageMaker") (T := T_PM) (N := 4) hx hb htb in_PM ty_PM to_PM nm_PM hown hK hP hD hS (hsub6 _ (hsub4 _ (hsub2 _ hp))) hfp6 rfl 3 (by decide) (htb _ tw_163) (fun _ h9 => h9) rfl rfl rfl rfl (Nat.le_of_ble_eq_true rfl) d_PM_endOpenPage_49 (fun f13 H locs ef13 hP hD hS => ?_)
  have ef13 : f13 = va_up f6 pm (.inr (4, [.ref al, .ref el, .ref fr, .ref q8])) := ef13
  refine lv_aload_n hx hb d_PM_endOpenPage_52 rfl (lv_at hl 0 rfl) ?_
  have h_14 : f13 op = .inr (2, [.ref to, .ref fo, .int (nI a), .long P.2.1, .int (nI b), .int P.2.2.2.1, .int P.2.2.2.2.1, .int P.2.2.2.2.2]) := by rw [ef13, va_up_ne _ _ (pz_nec hfo7 hfp6 (by decide))]; exact hfo7
  refine pz_get (ci := 2) (C := "PageMaker$OpenPage") (T := T_OP) (N := 8) hx hb htb in_OP hown hK hP (hsub6 _ (hsub4 _ (hsub2 _ ho))) h_14 rfl 4 (by decide) (htb _ tw_135) (fun _ h9 => h9) rfl d_PM_endOpenPage_53 ?_
  have h7 : ∀ z, z ∈ L → tg (f z) ≠ 4 → f13 z = f6 z := fun z hz z1 => by rw [ef13]; exact va_up_ne _ _ (tg_ne rfl (show tg (f pm) = 4 by rw [hfp]; rfl) z1)
  have hold7 : ∀ z, z ∈ L → tg (f z) ≠ 0 → tg (f z) ≠ 104 → tg (f z) ≠ 4 → f13 z = f z := fun z hz z1 z2 z3 => (h7 z hz z3).trans ((hold6 z (hsub4 _ (hsub2 _ hz))).trans (hold4 z hz z1 z2))
  have hsub7 : ∀ z, z ∈ L → z ∈ ((L4 ++ [q8]) ++ [to6] ++ [sa6]) := fun z hz => hsub6 z (hsub4 z (hsub2 z hz))
  have h76 : ∀ z, z ≠ pm → f13 z = f6 z := fun z z1 => by rw [ef13]; exact va_up_ne _ _ z1
  have hal7 : LR G ((L4 ++ [q8]) ++ [to6] ++ [sa6]) f13 al ad xs := rz_al hdd h_al h_el h_el3 hne9 hd4 hsub2 hsub7 hold3 hk4 (fun z hz z1 => (h7 z hz z1).trans (hold6 z (hsub4 _ (hsub2 _ hz))))
  have hel7 : LR G ((L4 ++ [q8]) ++ [to6] ++ [sa6]) f13 el d4 (ys ++ [q1]) := lr_keep2 h_el4 hsub6 ((h7 _ (lr_tg h_el).1 (by rw [(lr_tg h_el).2]; decide)).trans (hold6 _ (lr_tg h_el4).1)) (fun _ hd ht9 => (h76 _ (fun e => absurd (ht9.symm.trans (by rw [e, hfp4]; rfl)) (by decide : 104 ≠ 4))).trans (hold6 _ hd))
  have hY7 : YR ((L4 ++ [q8]) ++ [to6] ++ [sa6]) f13 (ys ++ [q1]) (pgs ++ [(F, (g_set P F.1 (t_list its F a b)))]) := yr_snoc (yr_keep hY hsub7 (fun z hz z1 => hold7 z hz (by omega) (by omega) (by omega))) (hsub6 _ (hsub4 _ hq2)) (hsub7 _ hr8) ((hold7 _ hr8 (by rw [hfof]; exact (by decide : 1 ≠ 0)) (by rw [hfof]; exact (by decide : 1 ≠ 104)) (by rw [hfof]; exact (by decide : 1 ≠ 4))).trans hfof) ((h76 _ (tg_ne (show tg (f4 q1) = 9 by rw [hq4]; rfl) (show tg (f4 pm) = 4 by rw [hfp4]; rfl) (by decide))).trans ((hold6 _ (hsub4 _ hq2)).trans hq4))
  have hX7 : XR ((L4 ++ [q8]) ++ [to6] ++ [sa6]) f13 xs its := xr_keep hX hsub7 (fun z hz z1 z2 => hold7 z hz (by omega) (by omega) (by omega))
  have hfr7 : f13 fr = frE F9 := (hold7 _ hr9 (by rw [hfr]; exact (by decide : 1 ≠ 0)) (by rw [hfr]; exact (by decide : 1 ≠ 104)) (by rw [hfr]; exact (by decide : 1 ≠ 4))).trans hfr
  have hpm7 : f13 pm = .inr (4, [.ref al, .ref el, .ref fr, .ref q8]) := by rw [ef13]; exact va_up_self _ _ _
  have tp : tg (f6 pm) = 4 := by rw [hfp6]; rfl
  exact pz_iret hx hb hr rfl hlocks hK hP hD hS (Nat.le_of_ble_eq_true rfl) (Nat.le_of_ble_eq_true rfl) ⟨rfl, d4, q8, to6, sa6, _, ⟨hsub7 _ hp, hpm7, hal7, hel7, hne9, rz_dd hdd h_al hd4 hsub2, hX7, hY7, hsub7 _ hr9, hfr7, ho6, (h76 _ (tg_ne (show tg (f6 q8) = 2 by rw [hfo6]; rfl) tp (by decide))).trans hfo6, List.mem_append_left _ (l_in_new _ _), (h76 _ (tg_ne (show tg (f6 to6) = 3 by rw [hto6]; rfl) tp (by decide))).trans hto6, l_in_new _ _, (h76 _ (tg_ne (show tg (f6 sa6) = 101 by rw [hsa6]; rfl) tp (by decide))).trans hsa6, hsub7 _ hr9, hfr7⟩⟩ d_PM_endOpenPage_56
set_option maxHeartbeats 4000000 in
set_option maxRecDepth 100000 in
/-- lookFrom: its loop; n rounds may still come -/
theorem lp_lookFrom (l : Launch) (G : gG) (L : List Nat) (f : Nat → va_E) (sz : Nat) (pm al ad el fr k0 : Nat) (xs : List Nat) (its : List It) (F9 : Fr) (p0 : Nat) (SX : CS) {p : Program} {e : Env} {s : State} {m : MethodId} {below : List Frame} {meth : Method} {c : Code} (hx : p.tables.exec = Jvm.exec) (hb : c.code = prog_1_method_19_code) (hr : meth.sig.returnType = none) (hml : c.maxLocals = 5) (hts : ∀ w ∈ w_PM_lookFrom, w.before ([.ref pm, .int (nI k0)] : List Value).toArray s = true) (hown : s.vm.findClass "PageMaker" = some m.cls) (hlocks : meth.locks = false) (hK : va_K (gD G) cls9 (gT G) s) (hA : ∀ q, s.heap.size ≤ q → mA L f sz q) (hz : gZ G (mA L f sz) s s.heap) (hn5 : its.length ≤ 512) :
    ∀ (n : Nat) (S : CS) (k : Nat) (L1 : List Nat) (f1 : Nat → va_E) (H : Heap) (locs : List Loc) (ls : Array Slot) (op to sa fo ed : Nat) (ys : List Nat), n ≤ 4004001 → S.1 = its → S.2.1 = F9 → k ≤ its.length → p0 ≤ S.2.2.1.length → S.2.2.1.length ≤ 512 → c_ok n S k → (c_run n S k).1 = SX → RX G L1 f1 pm al ad el ed fr op to sa fo xs ys S → va_P (gD G) cls9 ([] ++ va_pl L1 f1) H → va_D (mA L f sz) ([] ++ va_pl L1 f1) → va_S (mA L f sz) s.heap H locs → lv_has ls 5 [(0, .ref pm), (2, .int (nI k)), (3, .int (nI (4004001 - n)))] →
      W p l e ({ frames := 8, cells := 7 * (SX.2.2.1.length - p0), slots := 933 * (SX.2.2.1.length - p0), locals := 192 } : Room) s m ([.ref pm, .int (nI k0)] : List Value).toArray below meth c H locs (7 * (S.2.2.1.length - p0)) (933 * (S.2.2.1.length - p0)) (MQ below (va_Qv (fun u => ∃ ed1 op1 to1 sa1 fo1 ys1, RX G u.1 u.2 pm al ad el ed1 fr op1 to1 sa1 fo1 xs ys1 SX) (pz_B (gD G) cls9 (gT G) (mA L f sz)) (mA L f sz)) ([.ref pm, .int (nI k0)] : List Value).toArray s (7 * (SX.2.2.1.length - p0)) (933 * (SX.2.2.1.length - p0)) (mA L f sz)) (F0 m 4 ls []) := by
  have htb : ∀ w ∈ TB, w.before _ s = true := fun w h => hts w (List.mem_cons_of_mem _ h)
  intro n
  induction n with
  | zero =>
    intro S k L1 f1 H locs ls op to sa fo ed ys hn hS1 hS2 hk hp0 hp1 hok9 hrun hR hP hD hS hl
    have hrun : S = SX := hrun
    subst hrun
    refine lv_iload_n hx hb d_PM_lookFrom_4 rfl (lv_at hl 2 rfl) ?_
    refine lv_ldc (v := 4004001) hx hb hown (htb _ tw_385) d_PM_lookFrom_5 ?_
    refine lv_icmp_ge (tgt := 65) hx hb d_PM_lookFrom_7 (by decide) (fun c_1 => ?_) (fun c_1 => ?_)
    · exact pz_vret hx hb hr hlocks hK hP hD hS (Nat.le_refl _) (Nat.le_refl _) ⟨ed, op, to, sa, fo, ys, hR⟩ d_PM_lookFrom_65
    · exact absurd (by decide : (4004001 : Int32) ≤ nI (4004001 - 0)) c_1
  | succ n ih =>
    intro S k L1 f1 H locs ls op to sa fo ed ys hn hS1 hS2 hk hp0 hp1 hok9 hrun hR hP hD hS hl
    obtain ⟨its1, F91, pgs, F, P, T⟩ := S
    have hS1 : its1 = its := hS1
    have hS2 : F91 = F9 := hS2
    subst hS1
    subst hS2
    have hp0 : p0 ≤ pgs.length := hp0
    have hp1 : pgs.length ≤ 512 := hp1
    have hmo : pgs.length ≤ SX.2.2.1.length := by rw [← hrun]; exact c_run_mono (n + 1) (its1, F91, pgs, F, P, T) k
    obtain ⟨hp, hfp, h_al, -, -, -, hX, -⟩ := id hR
    have hX : XR L1 f1 xs its1 := hX
    have hxl : xs.length = its1.length := hX.1
    obtain ⟨mo_al, hm_al, hc_al, -⟩ := id h_al
    refine lv_iload_n hx hb d_PM_lookFrom_4 rfl (lv_at hl 2 rfl) ?_
    refine lv_ldc (v := 4004001) hx hb hown (htb _ tw_385) d_PM_lookFrom_5 ?_
    refine lv_icmp_ge (tgt := 65) hx hb d_PM_lookFrom_7 (by decide) (fun c_2 => ?_) (fun c_2 => ?_)
    · exact absurd c_2 (k_fuel hn)
    · refine lv_aload_n hx hb d_PM_lookFrom_10 rfl (lv_at hl 0 rfl) ?_
      refine lv_iload_n hx hb d_PM_lookFrom_11 rfl (lv_at hl 1 rfl) ?_
      refine vp_callSi (va_Run.run (va_runV (As := [.int (nI k)]) (rest := []) ⟨hx, hb, hml, hown, hts⟩ (c_PM_isItem l G L1 f1 _ pm al el fr op ad xs (nI k) hp hfp h_al) (cwV 1 hts (tb_V tw_386 tw_388 tp_7 tw_1 tw_389) rfl rfl rfl (by decide +kernel) ⟨(Nat.le_of_ble_eq_true rfl), (Nat.le_of_ble_eq_true rfl)⟩) (pz_preV (zz_ok _ _ _) hK hP hD hS hA hz (ci := 4) rfl rfl hp hfp) rfl rfl hl.1 rfl (lv_room (Nat.le_of_ble_eq_true rfl)) d_PM_lookFrom_12 ⟨(k_rc hmo), (k_rs hmo)⟩)) (fun r3 hw => ?_)
      rcases (show k_b (0 ≤ nI k ∧ nI k < nI xs.length) r3 from hw) with ⟨rfl, hq4⟩ | ⟨rfl, hq4⟩
      · refine lv_if_eq (tgt := 65) hx hb d_PM_lookFrom_15 (by decide) (fun c0 => absurd c0 (by decide)) (fun _ => ?_)
        refine lv_aload_n hx hb d_PM_lookFrom_18 rfl (lv_at hl 0 rfl) ?_
        refine pz_get (ci := 4) (C := "PageMaker") (T := T_PM) (N := 4) hx hb htb in_PM hown hK hP hp hfp rfl 0 (by decide) (htb _ tw_160) (fun _ h9 => h9) rfl d_PM_lookFrom_19 ?_
        refine lv_iload_n hx hb d_PM_lookFrom_22 rfl (lv_at hl 1 rfl) ?_
        have hk1 : k < its1.length := by rw [← hxl]; exact (nI_ltI (by omega) (by omega)).mp hq4.2
        obtain ⟨x, hx9⟩ : ∃ x, xs[k]? = some x := ⟨_, List.getElem?_eq_getElem (by omega)⟩
        obtain ⟨it, hi9⟩ : ∃ it, its1[k]? = some it := ⟨_, List.getElem?_eq_getElem hk1⟩
        obtain ⟨hxL, hfx, hok⟩ := hX.2 k x it hx9 hi9
        have hok9 : ((c_lk (its1, F91, pgs, F, P, T) k it).1 = true → c_eok (c_put (its1, F91, pgs, F, P, T) (c_lk (its1, F91, pgs, F, P, T) k it).2)) ∧ c_ok n (c_step (its1, F91, pgs, F, P, T) k it).1 (c_step (its1, F91, pgs, F, P, T) k it).2 := by rw [c_ok.eq_def] at hok9; simp only [hi9] at hok9; exact hok9
        have hrun : (c_run n (c_step (its1, F91, pgs, F, P, T) k it).1 (c_step (its1, F91, pgs, F, P, T) k it).2).1 = SX := by rw [c_run.eq_def] at hrun; simp only [hi9] at hrun; exact hrun
        obtain ⟨B, hB⟩ : ∃ B, B = c_lk (its1, F91, pgs, F, P, T) k it := ⟨_, rfl⟩
        rw [← hB] at hok9
        refine va_csq (va_Run.run (va_runV (As := [.int (nI k)]) (rest := []) ⟨hx, hb, hml, hown, hts⟩ (al_get l G L1 f1 _ al ad xs k x h_al hx9) (cwV 1 hts (tb_V tw_390 tw_391 tw_392 tw_4 tw_393) rfl rfl rfl (by decide +kernel) ⟨(Nat.le_of_ble_eq_true rfl), (Nat.le_of_ble_eq_true rfl)⟩) (pz_preV (zz_ok _ _ _) hK hP hD hS hA hz (ci := 0) rfl rfl hm_al hc_al) rfl rfl hl.1 rfl (lv_room (Nat.le_of_ble_eq_true rfl)) d_PM_lookFrom_23 ⟨(k_rc hmo), (k_rs hmo)⟩)) (fun r5 hw => ?_)
        have hw : r5 = some x := hw
        subst hw
        refine W.eq (g2 := F0 m 26 ls [.ref x]) rfl ?_
        rcases it with ⟨ia, ib⟩ | ⟨ia, ib, io, id9⟩ | ia | ia
        · refine va_castY (C := "PageMaker$Box") hx hb hown (htb _ tw_404) (hz.1 _ tn_884) (pz_recv hK hP (ci := 5) rfl hxL hfx) d_PM_lookFrom_26 ?_
          refine lv_astore (lv' := [(4, .ref x), (0, .ref pm), (2, .int (nI k)), (3, .int (nI (4004001 - (n + 1))))]) hx hb d_PM_lookFrom_29 hl (by decide) rfl (fun ls hl => ?_)
          refine lv_aload_n hx hb d_PM_lookFrom_31 rfl (lv_at hl 1 rfl) ?_
          refine lv_iload_n hx hb d_PM_lookFrom_32 rfl (lv_at hl 2 rfl) ?_
          refine lv_aload hx hb d_PM_lookFrom_33 (lv_at hl 0 rfl) ?_
          refine pz_ci (va_runV (As := [.int (nI k), .ref x]) (rest := []) ⟨hx, hb, hml, hown, hts⟩ (r_PM_break l G L1 f1 _ pm al ad el ed fr op to sa fo xs ys its1 F91 pgs F P T k x _ hR hk1 hx9 hi9 hn5) (cwV 2 hts (tb_V tw_405 tw_407 tp_8 tw_1 tw_408) rfl rfl rfl (by decide +kernel) ⟨(Nat.le_of_ble_eq_true rfl), (Nat.le_of_ble_eq_true rfl)⟩) (pz_preV (zz_ok _ _ _) hK hP hD hS hA hz (ci := 4) rfl rfl hp hfp) rfl rfl hl.1 rfl (lv_room (Nat.le_of_ble_eq_true rfl)) d_PM_lookFrom_35 ⟨(k_rc hmo), (k_rs hmo)⟩) hP hD hS hA (fun r9 L9 f9 H locs hw hP hD hS => ?_)
          obtain ⟨hb9, hiff, eL9, hR⟩ := hw
          have eL9 : L9 = L1 := eL9
          subst L9
          rw [← hB] at hiff hR
          have hR : RX G L1 f9 pm al ad el ed fr op to sa fo xs ys (its1, F91, pgs, F, B.2, T) := hR
          obtain ⟨hp, hfp, -, -, -, -, hX, -⟩ := id hR
          have hX : XR L1 f9 xs its1 := hX
          have hfx : f9 x = itE (.inl (ia, ib)) := (hX.2 k x _ hx9 hi9).2.1
          rcases hb9 with rfl | rfl
          · refine lv_if_eq (tgt := 49) hx hb d_PM_lookFrom_38 (by decide) (fun c0 => absurd c0 (by decide)) (fun _ => ?_)
            refine lv_aload_n hx hb d_PM_lookFrom_41 rfl (lv_at hl 1 rfl) ?_
            have hB1 : B.1 = true := hiff.mp rfl
            obtain ⟨ea, eb, b0, b1, e1, e2, e3, e4, e5, e6⟩ := hok9.1 hB1
            have e6 : pgs.length < 512 := e6
            have hst : c_step (its1, F91, pgs, F, P, T) k (.inl (ia, ib)) = (c_end (c_put (its1, F91, pgs, F, P, T) B.2) ea eb, eb) := by rw [hB] at hB1 e1 e2 ⊢; exact c_step_end hB1 e1 e2 e3 e4 e5 hn5
            have hok9 := hok9.2
            rw [hst] at hok9 hrun
            have hmo1 : pgs.length + 1 ≤ SX.2.2.1.length := by rw [← hrun]; refine Nat.le_trans (Nat.le_of_eq ?_) (c_run_mono _ _ _); exact (List.length_append.trans (by rw [List.length_singleton]; rfl)).symm
            refine pz_ci (va_runV (As := []) (rest := []) ⟨hx, hb, hml, hown, hts⟩ (c_PM_endOpenPage l G L1 f9 _ pm al ad el ed fr op to sa fo xs ys its1 F91 pgs F B.2 T ea eb b0 b1 hR e1 e2 e3 e4 e5 hn5 e6) (cwV 0 hts (tb_V tw_442 tw_444 tp_9 tw_1 tw_445) rfl rfl rfl (by decide +kernel) ⟨(Nat.le_of_ble_eq_true rfl), (Nat.le_of_ble_eq_true rfl)⟩) (pz_preV (zz_ok _ _ _) hK hP hD hS hA hz (ci := 4) rfl rfl hp hfp) rfl rfl hl.1 rfl (lv_room (Nat.le_of_ble_eq_true rfl)) d_PM_lookFrom_42 ⟨(k_room7 hp0 hmo1), (k_room9 hp0 hmo1)⟩) hP hD hS hA (fun r8 L8 f8 H locs hw hP hD hS => ?_)
            obtain ⟨er8, ed8, op8, to8, sa8, ys8, hR8⟩ := hw
            have er8 : r8 = nI eb := er8
            subst r8
            refine lv_istore_n (lv' := [(2, .int (nI eb)), (4, .ref x), (0, .ref pm), (3, .int (nI (4004001 - (n + 1))))]) hx hb d_PM_lookFrom_45 rfl hl (by decide) rfl (fun ls hl => ?_)
            refine lv_goto (tgt := 59) hx hb d_PM_lookFrom_46 (by decide) ?_
            refine lv_iinc (v := nI (4004001 - n)) (lv' := [(3, .int (nI (4004001 - n))), (2, .int (nI eb)), (4, .ref x), (0, .ref pm)]) hx hb d_PM_lookFrom_59 hl (k := 3) rfl (k_inc hn) (by decide) rfl (fun ls hl => ?_)
            refine lv_goto (tgt := 4) hx hb d_PM_lookFrom_62 (by decide) ?_
            have hlen : (pgs ++ [(F, g_set B.2 F.1 (t_list its1 F ea eb))]).length = pgs.length + 1 := by rw [List.length_append, List.length_singleton]
            refine W.widen (k := 7 * ((pgs ++ [(F, g_set B.2 F.1 (t_list its1 F ea eb))]).length - p0)) (n := 933 * ((pgs ++ [(F, g_set B.2 F.1 (t_list its1 F ea eb))]).length - p0)) (by rw [hlen]; show 7 * (pgs.length - p0) + 7 ≤ _; omega) (by rw [hlen]; show 933 * (pgs.length - p0) + 933 ≤ _; omega) ?_
            exact ih _ eb L8 f8 H locs ls op8 to8 sa8 fr ed8 ys8 (by omega) rfl rfl e5 (by show p0 ≤ (pgs ++ [_]).length; rw [List.length_append, List.length_singleton]; omega) (by show (pgs ++ [_]).length ≤ 512; rw [List.length_append, List.length_singleton]; omega) hok9 hrun hR8 hP hD hS (lv_sub hl [3, 1, 0] rfl)
          · refine lv_if_eq (tgt := 49) hx hb d_PM_lookFrom_38 (by decide) (fun _ => ?_) (fun c0 => absurd c0 (by decide))
            refine lv_aload_n hx hb d_PM_lookFrom_49 rfl (lv_at hl 1 rfl) ?_
            refine lv_iload_n hx hb d_PM_lookFrom_50 rfl (lv_at hl 2 rfl) ?_
            refine lv_aload hx hb d_PM_lookFrom_51 (lv_at hl 0 rfl) ?_
            have hst : c_step (its1, F91, pgs, F, P, T) k (.inl (ia, ib)) = (c_tk (c_put (its1, F91, pgs, F, P, T) B.2) k (.inl (ia, ib)), k + 1) := by rw [hB] at hiff ⊢; exact if_neg (fun h => absurd (hiff.mpr h) (by decide))
            have hok9 := hok9.2
            rw [hst] at hok9 hrun
            refine pz_cv (va_runV (As := [.int (nI k), .ref x]) (rest := []) ⟨hx, hb, hml, hown, hts⟩ (c_PM_takeIn l G L1 f9 _ pm al ad el ed fr op to sa fo xs ys its1 F91 pgs F B.2 T k x _ hR hx9 hi9) (cwV 2 hts (tb_V tw_525 tw_527 tp_11 tw_1 tw_528) rfl rfl rfl (by decide +kernel) ⟨(Nat.le_of_ble_eq_true rfl), (Nat.le_of_ble_eq_true rfl)⟩) (pz_preV (zz_ok _ _ _) hK hP hD hS hA hz (ci := 4) rfl rfl hp hfp) rfl rfl hl.1 rfl (lv_room (Nat.le_of_ble_eq_true rfl)) d_PM_lookFrom_53 ⟨(k_rc hmo), (k_rs hmo)⟩) hP hD hS hA (fun L8 f8 H locs hw hP hD hS => ?_)
            obtain ⟨eL8, fo8, hR8⟩ := hw
            have eL8 : L8 = L1 := eL8
            subst L8
            refine lv_iinc (v := nI (k + 1)) (lv' := [(2, .int (nI (k + 1))), (4, .ref x), (0, .ref pm), (3, .int (nI (4004001 - (n + 1))))]) hx hb d_PM_lookFrom_56 hl (k := 2) rfl (nI_1 k) (by decide) rfl (fun ls hl => ?_)
            refine lv_iinc (v := nI (4004001 - n)) (lv' := [(3, .int (nI (4004001 - n))), (2, .int (nI (k + 1))), (4, .ref x), (0, .ref pm)]) hx hb d_PM_lookFrom_59 hl (k := 3) rfl (k_inc hn) (by decide) rfl (fun ls hl => ?_)
            refine lv_goto (tgt := 4) hx hb d_PM_lookFrom_62 (by decide) ?_
            exact ih (c_tk (c_put (its1, F91, pgs, F, P, T) B.2) k (.inl (ia, ib))) (k + 1) L1 f8 H locs ls op to sa fo8 ed ys (by omega) rfl rfl (by omega) hp0 hp1 hok9 hrun hR8 hP hD hS (lv_sub hl [3, 1, 0] rfl)
        · refine va_castY (C := "PageMaker$Glue") hx hb hown (htb _ tw_404) (hz.1 _ tn_885) (pz_recv hK hP (ci := 6) rfl hxL hfx) d_PM_lookFrom_26 ?_
          refine lv_astore (lv' := [(4, .ref x), (0, .ref pm), (2, .int (nI k)), (3, .int (nI (4004001 - (n + 1))))]) hx hb d_PM_lookFrom_29 hl (by decide) rfl (fun ls hl => ?_)
          refine lv_aload_n hx hb d_PM_lookFrom_31 rfl (lv_at hl 1 rfl) ?_
          refine lv_iload_n hx hb d_PM_lookFrom_32 rfl (lv_at hl 2 rfl) ?_
          refine lv_aload hx hb d_PM_lookFrom_33 (lv_at hl 0 rfl) ?_
          refine pz_ci (va_runV (As := [.int (nI k), .ref x]) (rest := []) ⟨hx, hb, hml, hown, hts⟩ (r_PM_break l G L1 f1 _ pm al ad el ed fr op to sa fo xs ys its1 F91 pgs F P T k x _ hR hk1 hx9 hi9 hn5) (cwV 2 hts (tb_V tw_405 tw_407 tp_8 tw_1 tw_408) rfl rfl rfl (by decide +kernel) ⟨(Nat.le_of_ble_eq_true rfl), (Nat.le_of_ble_eq_true rfl)⟩) (pz_preV (zz_ok _ _ _) hK hP hD hS hA hz (ci := 4) rfl rfl hp hfp) rfl rfl hl.1 rfl (lv_room (Nat.le_of_ble_eq_true rfl)) d_PM_lookFrom_35 ⟨(k_rc hmo), (k_rs hmo)⟩) hP hD hS hA (fun r9 L9 f9 H locs hw hP hD hS => ?_)
          obtain ⟨hb9, hiff, eL9, hR⟩ := hw
          have eL9 : L9 = L1 := eL9
          subst L9
          rw [← hB] at hiff hR
          have hR : RX G L1 f9 pm al ad el ed fr op to sa fo xs ys (its1, F91, pgs, F, B.2, T) := hR
          obtain ⟨hp, hfp, -, -, -, -, hX, -⟩ := id hR
          have hX : XR L1 f9 xs its1 := hX
          have hfx : f9 x = itE (.inr (.inl (ia, ib, io, id9))) := (hX.2 k x _ hx9 hi9).2.1
          rcases hb9 with rfl | rfl
          · refine lv_if_eq (tgt := 49) hx hb d_PM_lookFrom_38 (by decide) (fun c0 => absurd c0 (by decide)) (fun _ => ?_)
            refine lv_aload_n hx hb d_PM_lookFrom_41 rfl (lv_at hl 1 rfl) ?_
            have hB1 : B.1 = true := hiff.mp rfl
            obtain ⟨ea, eb, b0, b1, e1, e2, e3, e4, e5, e6⟩ := hok9.1 hB1
            have e6 : pgs.length < 512 := e6
            have hst : c_step (its1, F91, pgs, F, P, T) k (.inr (.inl (ia, ib, io, id9))) = (c_end (c_put (its1, F91, pgs, F, P, T) B.2) ea eb, eb) := by rw [hB] at hB1 e1 e2 ⊢; exact c_step_end hB1 e1 e2 e3 e4 e5 hn5
            have hok9 := hok9.2
            rw [hst] at hok9 hrun
            have hmo1 : pgs.length + 1 ≤ SX.2.2.1.length := by rw [← hrun]; refine Nat.le_trans (Nat.le_of_eq ?_) (c_run_mono _ _ _); exact (List.length_append.trans (by rw [List.length_singleton]; rfl)).symm
            refine pz_ci (va_runV (As := []) (rest := []) ⟨hx, hb, hml, hown, hts⟩ (c_PM_endOpenPage l G L1 f9 _ pm al ad el ed fr op to sa fo xs ys its1 F91 pgs F B.2 T ea eb b0 b1 hR e1 e2 e3 e4 e5 hn5 e6) (cwV 0 hts (tb_V tw_442 tw_444 tp_9 tw_1 tw_445) rfl rfl rfl (by decide +kernel) ⟨(Nat.le_of_ble_eq_true rfl), (Nat.le_of_ble_eq_true rfl)⟩) (pz_preV (zz_ok _ _ _) hK hP hD hS hA hz (ci := 4) rfl rfl hp hfp) rfl rfl hl.1 rfl (lv_room (Nat.le_of_ble_eq_true rfl)) d_PM_lookFrom_42 ⟨(k_room7 hp0 hmo1), (k_room9 hp0 hmo1)⟩) hP hD hS hA (fun r8 L8 f8 H locs hw hP hD hS => ?_)
            obtain ⟨er8, ed8, op8, to8, sa8, ys8, hR8⟩ := hw
            have er8 : r8 = nI eb := er8
            subst r8
            refine lv_istore_n (lv' := [(2, .int (nI eb)), (4, .ref x), (0, .ref pm), (3, .int (nI (4004001 - (n + 1))))]) hx hb d_PM_lookFrom_45 rfl hl (by decide) rfl (fun ls hl => ?_)
            refine lv_goto (tgt := 59) hx hb d_PM_lookFrom_46 (by decide) ?_
            refine lv_iinc (v := nI (4004001 - n)) (lv' := [(3, .int (nI (4004001 - n))), (2, .int (nI eb)), (4, .ref x), (0, .ref pm)]) hx hb d_PM_lookFrom_59 hl (k := 3) rfl (k_inc hn) (by decide) rfl (fun ls hl => ?_)
            refine lv_goto (tgt := 4) hx hb d_PM_lookFrom_62 (by decide) ?_
            have hlen : (pgs ++ [(F, g_set B.2 F.1 (t_list its1 F ea eb))]).length = pgs.length + 1 := by rw [List.length_append, List.length_singleton]
            refine W.widen (k := 7 * ((pgs ++ [(F, g_set B.2 F.1 (t_list its1 F ea eb))]).length - p0)) (n := 933 * ((pgs ++ [(F, g_set B.2 F.1 (t_list its1 F ea eb))]).length - p0)) (by rw [hlen]; show 7 * (pgs.length - p0) + 7 ≤ _; omega) (by rw [hlen]; show 933 * (pgs.length - p0) + 933 ≤ _; omega) ?_
            exact ih _ eb L8 f8 H locs ls op8 to8 sa8 fr ed8 ys8 (by omega) rfl rfl e5 (by show p0 ≤ (pgs ++ [_]).length; rw [List.length_append, List.length_singleton]; omega) (by show (pgs ++ [_]).length ≤ 512; rw [List.length_append, List.length_singleton]; omega) hok9 hrun hR8 hP hD hS (lv_sub hl [3, 1, 0] rfl)
          · refine lv_if_eq (tgt := 49) hx hb d_PM_lookFrom_38 (by decide) (fun _ => ?_) (fun c0 => absurd c0 (by decide))
            refine lv_aload_n hx hb d_PM_lookFrom_49 rfl (lv_at hl 1 rfl) ?_
            refine lv_iload_n hx hb d_PM_lookFrom_50 rfl (lv_at hl 2 rfl) ?_
            refine lv_aload hx hb d_PM_lookFrom_51 (lv_at hl 0 rfl) ?_
            have hst : c_step (its1, F91, pgs, F, P, T) k (.inr (.inl (ia, ib, io, id9))) = (c_tk (c_put (its1, F91, pgs, F, P, T) B.2) k (.inr (.inl (ia, ib, io, id9))), k + 1) := by rw [hB] at hiff ⊢; exact if_neg (fun h => absurd (hiff.mpr h) (by decide))
            have hok9 := hok9.2
            rw [hst] at hok9 hrun
            refine pz_cv (va_runV (As := [.int (nI k), .ref x]) (rest := []) ⟨hx, hb, hml, hown, hts⟩ (c_PM_takeIn l G L1 f9 _ pm al ad el ed fr op to sa fo xs ys its1 F91 pgs F B.2 T k x _ hR hx9 hi9) (cwV 2 hts (tb_V tw_525 tw_527 tp_11 tw_1 tw_528) rfl rfl rfl (by decide +kernel) ⟨(Nat.le_of_ble_eq_true rfl), (Nat.le_of_ble_eq_true rfl)⟩) (pz_preV (zz_ok _ _ _) hK hP hD hS hA hz (ci := 4) rfl rfl hp hfp) rfl rfl hl.1 rfl (lv_room (Nat.le_of_ble_eq_true rfl)) d_PM_lookFrom_53 ⟨(k_rc hmo), (k_rs hmo)⟩) hP hD hS hA (fun L8 f8 H locs hw hP hD hS => ?_)
            obtain ⟨eL8, fo8, hR8⟩ := hw
            have eL8 : L8 = L1 := eL8
            subst L8
            refine lv_iinc (v := nI (k + 1)) (lv' := [(2, .int (nI (k + 1))), (4, .ref x), (0, .ref pm), (3, .int (nI (4004001 - (n + 1))))]) hx hb d_PM_lookFrom_56 hl (k := 2) rfl (nI_1 k) (by decide) rfl (fun ls hl => ?_)
            refine lv_iinc (v := nI (4004001 - n)) (lv' := [(3, .int (nI (4004001 - n))), (2, .int (nI (k + 1))), (4, .ref x), (0, .ref pm)]) hx hb d_PM_lookFrom_59 hl (k := 3) rfl (k_inc hn) (by decide) rfl (fun ls hl => ?_)
            refine lv_goto (tgt := 4) hx hb d_PM_lookFrom_62 (by decide) ?_
            exact ih (c_tk (c_put (its1, F91, pgs, F, P, T) B.2) k (.inr (.inl (ia, ib, io, id9)))) (k + 1) L1 f8 H locs ls op to sa fo8 ed ys (by omega) rfl rfl (by omega) hp0 hp1 hok9 hrun hR8 hP hD hS (lv_sub hl [3, 1, 0] rfl)
        · refine va_castY (C := "PageMaker$Kern") hx hb hown (htb _ tw_404) (hz.1 _ tn_886) (pz_recv hK hP (ci := 7) rfl hxL hfx) d_PM_lookFrom_26 ?_
          refine lv_astore (lv' := [(4, .ref x), (0, .ref pm), (2, .int (nI k)), (3, .int (nI (4004001 - (n + 1))))]) hx hb d_PM_lookFrom_29 hl (by decide) rfl (fun ls hl => ?_)
          refine lv_aload_n hx hb d_PM_lookFrom_31 rfl (lv_at hl 1 rfl) ?_
          refine lv_iload_n hx hb d_PM_lookFrom_32 rfl (lv_at hl 2 rfl) ?_
          refine lv_aload hx hb d_PM_lookFrom_33 (lv_at hl 0 rfl) ?_
          refine pz_ci (va_runV (As := [.int (nI k), .ref x]) (rest := []) ⟨hx, hb, hml, hown, hts⟩ (r_PM_break l G L1 f1 _ pm al ad el ed fr op to sa fo xs ys its1 F91 pgs F P T k x _ hR hk1 hx9 hi9 hn5) (cwV 2 hts (tb_V tw_405 tw_407 tp_8 tw_1 tw_408) rfl rfl rfl (by decide +kernel) ⟨(Nat.le_of_ble_eq_true rfl), (Nat.le_of_ble_eq_true rfl)⟩) (pz_preV (zz_ok _ _ _) hK hP hD hS hA hz (ci := 4) rfl rfl hp hfp) rfl rfl hl.1 rfl (lv_room (Nat.le_of_ble_eq_true rfl)) d_PM_lookFrom_35 ⟨(k_rc hmo), (k_rs hmo)⟩) hP hD hS hA (fun r9 L9 f9 H locs hw hP hD hS => ?_)
          obtain ⟨hb9, hiff, eL9, hR⟩ := hw
          have eL9 : L9 = L1 := eL9
          subst L9
          rw [← hB] at hiff hR
          have hR : RX G L1 f9 pm al ad el ed fr op to sa fo xs ys (its1, F91, pgs, F, B.2, T) := hR
          obtain ⟨hp, hfp, -, -, -, -, hX, -⟩ := id hR
          have hX : XR L1 f9 xs its1 := hX
          have hfx : f9 x = itE (.inr (.inr (.inl ia))) := (hX.2 k x _ hx9 hi9).2.1
          rcases hb9 with rfl | rfl
          · refine lv_if_eq (tgt := 49) hx hb d_PM_lookFrom_38 (by decide) (fun c0 => absurd c0 (by decide)) (fun _ => ?_)
            refine lv_aload_n hx hb d_PM_lookFrom_41 rfl (lv_at hl 1 rfl) ?_
            have hB1 : B.1 = true := hiff.mp rfl
            obtain ⟨ea, eb, b0, b1, e1, e2, e3, e4, e5, e6⟩ := hok9.1 hB1
            have e6 : pgs.length < 512 := e6
            have hst : c_step (its1, F91, pgs, F, P, T) k (.inr (.inr (.inl ia))) = (c_end (c_put (its1, F91, pgs, F, P, T) B.2) ea eb, eb) := by rw [hB] at hB1 e1 e2 ⊢; exact c_step_end hB1 e1 e2 e3 e4 e5 hn5
            have hok9 := hok9.2
            rw [hst] at hok9 hrun
            have hmo1 : pgs.length + 1 ≤ SX.2.2.1.length := by rw [← hrun]; refine Nat.le_trans (Nat.le_of_eq ?_) (c_run_mono _ _ _); exact (List.length_append.trans (by rw [List.length_singleton]; rfl)).symm
            refine pz_ci (va_runV (As := []) (rest := []) ⟨hx, hb, hml, hown, hts⟩ (c_PM_endOpenPage l G L1 f9 _ pm al ad el ed fr op to sa fo xs ys its1 F91 pgs F B.2 T ea eb b0 b1 hR e1 e2 e3 e4 e5 hn5 e6) (cwV 0 hts (tb_V tw_442 tw_444 tp_9 tw_1 tw_445) rfl rfl rfl (by decide +kernel) ⟨(Nat.le_of_ble_eq_true rfl), (Nat.le_of_ble_eq_true rfl)⟩) (pz_preV (zz_ok _ _ _) hK hP hD hS hA hz (ci := 4) rfl rfl hp hfp) rfl rfl hl.1 rfl (lv_room (Nat.le_of_ble_eq_true rfl)) d_PM_lookFrom_42 ⟨(k_room7 hp0 hmo1), (k_room9 hp0 hmo1)⟩) hP hD hS hA (fun r8 L8 f8 H locs hw hP hD hS => ?_)
            obtain ⟨er8, ed8, op8, to8, sa8, ys8, hR8⟩ := hw
            have er8 : r8 = nI eb := er8
            subst r8
            refine lv_istore_n (lv' := [(2, .int (nI eb)), (4, .ref x), (0, .ref pm), (3, .int (nI (4004001 - (n + 1))))]) hx hb d_PM_lookFrom_45 rfl hl (by decide) rfl (fun ls hl => ?_)
            refine lv_goto (tgt := 59) hx hb d_PM_lookFrom_46 (by decide) ?_
            refine lv_iinc (v := nI (4004001 - n)) (lv' := [(3, .int (nI (4004001 - n))), (2, .int (nI eb)), (4, .ref x), (0, .ref pm)]) hx hb d_PM_lookFrom_59 hl (k := 3) rfl (k_inc hn) (by decide) rfl (fun ls hl => ?_)
            refine lv_goto (tgt := 4) hx hb d_PM_lookFrom_62 (by decide) ?_
            have hlen : (pgs ++ [(F, g_set B.2 F.1 (t_list its1 F ea eb))]).length = pgs.length + 1 := by rw [List.length_append, List.length_singleton]
            refine W.widen (k := 7 * ((pgs ++ [(F, g_set B.2 F.1 (t_list its1 F ea eb))]).length - p0)) (n := 933 * ((pgs ++ [(F, g_set B.2 F.1 (t_list its1 F ea eb))]).length - p0)) (by rw [hlen]; show 7 * (pgs.length - p0) + 7 ≤ _; omega) (by rw [hlen]; show 933 * (pgs.length - p0) + 933 ≤ _; omega) ?_
            exact ih _ eb L8 f8 H locs ls op8 to8 sa8 fr ed8 ys8 (by omega) rfl rfl e5 (by show p0 ≤ (pgs ++ [_]).length; rw [List.length_append, List.length_singleton]; omega) (by show (pgs ++ [_]).length ≤ 512; rw [List.length_append, List.length_singleton]; omega) hok9 hrun hR8 hP hD hS (lv_sub hl [3, 1, 0] rfl)
          · refine lv_if_eq (tgt := 49) hx hb d_PM_lookFrom_38 (by decide) (fun _ => ?_) (fun c0 => absurd c0 (by decide))
            refine lv_aload_n hx hb d_PM_lookFrom_49 rfl (lv_at hl 1 rfl) ?_
            refine lv_iload_n hx hb d_PM_lookFrom_50 rfl (lv_at hl 2 rfl) ?_
            refine lv_aload hx hb d_PM_lookFrom_51 (lv_at hl 0 rfl) ?_
            have hst : c_step (its1, F91, pgs, F, P, T) k (.inr (.inr (.inl ia))) = (c_tk (c_put (its1, F91, pgs, F, P, T) B.2) k (.inr (.inr (.inl ia))), k + 1) := by rw [hB] at hiff ⊢; exact if_neg (fun h => absurd (hiff.mpr h) (by decide))
            have hok9 := hok9.2
            rw [hst] at hok9 hrun
            refine pz_cv (va_runV (As := [.int (nI k), .ref x]) (rest := []) ⟨hx, hb, hml, hown, hts⟩ (c_PM_takeIn l G L1 f9 _ pm al ad el ed fr op to sa fo xs ys its1 F91 pgs F B.2 T k x _ hR hx9 hi9) (cwV 2 hts (tb_V tw_525 tw_527 tp_11 tw_1 tw_528) rfl rfl rfl (by decide +kernel) ⟨(Nat.le_of_ble_eq_true rfl), (Nat.le_of_ble_eq_true rfl)⟩) (pz_preV (zz_ok _ _ _) hK hP hD hS hA hz (ci := 4) rfl rfl hp hfp) rfl rfl hl.1 rfl (lv_room (Nat.le_of_ble_eq_true rfl)) d_PM_lookFrom_53 ⟨(k_rc hmo), (k_rs hmo)⟩) hP hD hS hA (fun L8 f8 H locs hw hP hD hS => ?_)
            obtain ⟨eL8, fo8, hR8⟩ := hw
            have eL8 : L8 = L1 := eL8
            subst L8
            refine lv_iinc (v := nI (k + 1)) (lv' := [(2, .int (nI (k + 1))), (4, .ref x), (0, .ref pm), (3, .int (nI (4004001 - (n + 1))))]) hx hb d_PM_lookFrom_56 hl (k := 2) rfl (nI_1 k) (by decide) rfl (fun ls hl => ?_)
            refine lv_iinc (v := nI (4004001 - n)) (lv' := [(3, .int (nI (4004001 - n))), (2, .int (nI (k + 1))), (4, .ref x), (0, .ref pm)]) hx hb d_PM_lookFrom_59 hl (k := 3) rfl (k_inc hn) (by decide) rfl (fun ls hl => ?_)
            refine lv_goto (tgt := 4) hx hb d_PM_lookFrom_62 (by decide) ?_
            exact ih (c_tk (c_put (its1, F91, pgs, F, P, T) B.2) k (.inr (.inr (.inl ia)))) (k + 1) L1 f8 H locs ls op to sa fo8 ed ys (by omega) rfl rfl (by omega) hp0 hp1 hok9 hrun hR8 hP hD hS (lv_sub hl [3, 1, 0] rfl)
        · refine va_castY (C := "PageMaker$Penalty") hx hb hown (htb _ tw_404) (hz.1 _ tn_887) (pz_recv hK hP (ci := 8) rfl hxL hfx) d_PM_lookFrom_26 ?_
          refine lv_astore (lv' := [(4, .ref x), (0, .ref pm), (2, .int (nI k)), (3, .int (nI (4004001 - (n + 1))))]) hx hb d_PM_lookFrom_29 hl (by decide) rfl (fun ls hl => ?_)
          refine lv_aload_n hx hb d_PM_lookFrom_31 rfl (lv_at hl 1 rfl) ?_
          refine lv_iload_n hx hb d_PM_lookFrom_32 rfl (lv_at hl 2 rfl) ?_
          refine lv_aload hx hb d_PM_lookFrom_33 (lv_at hl 0 rfl) ?_
          refine pz_ci (va_runV (As := [.int (nI k), .ref x]) (rest := []) ⟨hx, hb, hml, hown, hts⟩ (r_PM_break l G L1 f1 _ pm al ad el ed fr op to sa fo xs ys its1 F91 pgs F P T k x _ hR hk1 hx9 hi9 hn5) (cwV 2 hts (tb_V tw_405 tw_407 tp_8 tw_1 tw_408) rfl rfl rfl (by decide +kernel) ⟨(Nat.le_of_ble_eq_true rfl), (Nat.le_of_ble_eq_true rfl)⟩) (pz_preV (zz_ok _ _ _) hK hP hD hS hA hz (ci := 4) rfl rfl hp hfp) rfl rfl hl.1 rfl (lv_room (Nat.le_of_ble_eq_true rfl)) d_PM_lookFrom_35 ⟨(k_rc hmo), (k_rs hmo)⟩) hP hD hS hA (fun r9 L9 f9 H locs hw hP hD hS => ?_)
          obtain ⟨hb9, hiff, eL9, hR⟩ := hw
          have eL9 : L9 = L1 := eL9
          subst L9
          rw [← hB] at hiff hR
          have hR : RX G L1 f9 pm al ad el ed fr op to sa fo xs ys (its1, F91, pgs, F, B.2, T) := hR
          obtain ⟨hp, hfp, -, -, -, -, hX, -⟩ := id hR
          have hX : XR L1 f9 xs its1 := hX
          have hfx : f9 x = itE (.inr (.inr (.inr ia))) := (hX.2 k x _ hx9 hi9).2.1
          rcases hb9 with rfl | rfl
          · refine lv_if_eq (tgt := 49) hx hb d_PM_lookFrom_38 (by decide) (fun c0 => absurd c0 (by decide)) (fun _ => ?_)
            refine lv_aload_n hx hb d_PM_lookFrom_41 rfl (lv_at hl 1 rfl) ?_
            have hB1 : B.1 = true := hiff.mp rfl
            obtain ⟨ea, eb, b0, b1, e1, e2, e3, e4, e5, e6⟩ := hok9.1 hB1
            have e6 : pgs.length < 512 := e6
            have hst : c_step (its1, F91, pgs, F, P, T) k (.inr (.inr (.inr ia))) = (c_end (c_put (its1, F91, pgs, F, P, T) B.2) ea eb, eb) := by rw [hB] at hB1 e1 e2 ⊢; exact c_step_end hB1 e1 e2 e3 e4 e5 hn5
            have hok9 := hok9.2
            rw [hst] at hok9 hrun
            have hmo1 : pgs.length + 1 ≤ SX.2.2.1.length := by rw [← hrun]; refine Nat.le_trans (Nat.le_of_eq ?_) (c_run_mono _ _ _); exact (List.length_append.trans (by rw [List.length_singleton]; rfl)).symm
            refine pz_ci (va_runV (As := []) (rest := []) ⟨hx, hb, hml, hown, hts⟩ (c_PM_endOpenPage l G L1 f9 _ pm al ad el ed fr op to sa fo xs ys its1 F91 pgs F B.2 T ea eb b0 b1 hR e1 e2 e3 e4 e5 hn5 e6) (cwV 0 hts (tb_V tw_442 tw_444 tp_9 tw_1 tw_445) rfl rfl rfl (by decide +kernel) ⟨(Nat.le_of_ble_eq_true rfl), (Nat.le_of_ble_eq_true rfl)⟩) (pz_preV (zz_ok _ _ _) hK hP hD hS hA hz (ci := 4) rfl rfl hp hfp) rfl rfl hl.1 rfl (lv_room (Nat.le_of_ble_eq_true rfl)) d_PM_lookFrom_42 ⟨(k_room7 hp0 hmo1), (k_room9 hp0 hmo1)⟩) hP hD hS hA (fun r8 L8 f8 H locs hw hP hD hS => ?_)
            obtain ⟨er8, ed8, op8, to8, sa8, ys8, hR8⟩ := hw
            have er8 : r8 = nI eb := er8
            subst r8
            refine lv_istore_n (lv' := [(2, .int (nI eb)), (4, .ref x), (0, .ref pm), (3, .int (nI (4004001 - (n + 1))))]) hx hb d_PM_lookFrom_45 rfl hl (by decide) rfl (fun ls hl => ?_)
            refine lv_goto (tgt := 59) hx hb d_PM_lookFrom_46 (by decide) ?_
            refine lv_iinc (v := nI (4004001 - n)) (lv' := [(3, .int (nI (4004001 - n))), (2, .int (nI eb)), (4, .ref x), (0, .ref pm)]) hx hb d_PM_lookFrom_59 hl (k := 3) rfl (k_inc hn) (by decide) rfl (fun ls hl => ?_)
            refine lv_goto (tgt := 4) hx hb d_PM_lookFrom_62 (by decide) ?_
            have hlen : (pgs ++ [(F, g_set B.2 F.1 (t_list its1 F ea eb))]).length = pgs.length + 1 := by rw [List.length_append, List.length_singleton]
            refine W.widen (k := 7 * ((pgs ++ [(F, g_set B.2 F.1 (t_list its1 F ea eb))]).length - p0)) (n := 933 * ((pgs ++ [(F, g_set B.2 F.1 (t_list its1 F ea eb))]).length - p0)) (by rw [hlen]; show 7 * (pgs.length - p0) + 7 ≤ _; omega) (by rw [hlen]; show 933 * (pgs.length - p0) + 933 ≤ _; omega) ?_
            exact ih _ eb L8 f8 H locs ls op8 to8 sa8 fr ed8 ys8 (by omega) rfl rfl e5 (by show p0 ≤ (pgs ++ [_]).length; rw [List.length_append, List.length_singleton]; omega) (by show (pgs ++ [_]).length ≤ 512; rw [List.length_append, List.length_singleton]; omega) hok9 hrun hR8 hP hD hS (lv_sub hl [3, 1, 0] rfl)
          · refine lv_if_eq (tgt := 49) hx hb d_PM_lookFrom_38 (by decide) (fun _ => ?_) (fun c0 => absurd c0 (by decide))
            refine lv_aload_n hx hb d_PM_lookFrom_49 rfl (lv_at hl 1 rfl) ?_
            refine lv_iload_n hx hb d_PM_lookFrom_50 rfl (lv_at hl 2 rfl) ?_
            refine lv_aload hx hb d_PM_lookFrom_51 (lv_at hl 0 rfl) ?_
            have hst : c_step (its1, F91, pgs, F, P, T) k (.inr (.inr (.inr ia))) = (c_tk (c_put (its1, F91, pgs, F, P, T) B.2) k (.inr (.inr (.inr ia))), k + 1) := by rw [hB] at hiff ⊢; exact if_neg (fun h => absurd (hiff.mpr h) (by decide))
            have hok9 := hok9.2
            rw [hst] at hok9 hrun
            refine pz_cv (va_runV (As := [.int (nI k), .ref x]) (rest := []) ⟨hx, hb, hml, hown, hts⟩ (c_PM_takeIn l G L1 f9 _ pm al ad el ed fr op to sa fo xs ys its1 F91 pgs F B.2 T k x _ hR hx9 hi9) (cwV 2 hts (tb_V tw_525 tw_527 tp_11 tw_1 tw_528) rfl rfl rfl (by decide +kernel) ⟨(Nat.le_of_ble_eq_true rfl), (Nat.le_of_ble_eq_true rfl)⟩) (pz_preV (zz_ok _ _ _) hK hP hD hS hA hz (ci := 4) rfl rfl hp hfp) rfl rfl hl.1 rfl (lv_room (Nat.le_of_ble_eq_true rfl)) d_PM_lookFrom_53 ⟨(k_rc hmo), (k_rs hmo)⟩) hP hD hS hA (fun L8 f8 H locs hw hP hD hS => ?_)
            obtain ⟨eL8, fo8, hR8⟩ := hw
            have eL8 : L8 = L1 := eL8
            subst L8
            refine lv_iinc (v := nI (k + 1)) (lv' := [(2, .int (nI (k + 1))), (4, .ref x), (0, .ref pm), (3, .int (nI (4004001 - (n + 1))))]) hx hb d_PM_lookFrom_56 hl (k := 2) rfl (nI_1 k) (by decide) rfl (fun ls hl => ?_)
            refine lv_iinc (v := nI (4004001 - n)) (lv' := [(3, .int (nI (4004001 - n))), (2, .int (nI (k + 1))), (4, .ref x), (0, .ref pm)]) hx hb d_PM_lookFrom_59 hl (k := 3) rfl (k_inc hn) (by decide) rfl (fun ls hl => ?_)
            refine lv_goto (tgt := 4) hx hb d_PM_lookFrom_62 (by decide) ?_
            exact ih (c_tk (c_put (its1, F91, pgs, F, P, T) B.2) k (.inr (.inr (.inr ia)))) (k + 1) L1 f8 H locs ls op to sa fo8 ed ys (by omega) rfl rfl (by omega) hp0 hp1 hok9 hrun hR8 hP hD hS (lv_sub hl [3, 1, 0] rfl)
      · refine lv_if_eq (tgt := 65) hx hb d_PM_lookFrom_15 (by decide) (fun _ => ?_) (fun c0 => absurd c0 (by decide))
        have hno : its1[k]? = none := List.getElem?_eq_none (by rw [← hxl]; exact k_nitem (by omega) (by omega) hq4)
        have hrun : (its1, F91, pgs, F, P, T) = SX := by rw [c_run.eq_def] at hrun; simp only [hno] at hrun; exact hrun
        subst hrun
        exact pz_vret hx hb hr hlocks hK hP hD hS (Nat.le_refl _) (Nat.le_refl _) ⟨ed, op, to, sa, fo, ys, hR⟩ d_PM_lookFrom_65
set_option maxHeartbeats 4000000 in
set_option maxRecDepth 100000 in
/-- lookFrom(k) -/
theorem c_PM_lookFrom (l : Launch) (G : gG) (L : List Nat) (f : Nat → va_E) (sz : Nat) (pm al ad el ed fr op to sa fo : Nat) (xs ys : List Nat) (its : List It) (F9 : Fr) (pgs : List (Fr × Pg)) (F : Fr) (P : Op) (T : Tt) (k : Nat) (hR : RX G L f pm al ad el ed fr op to sa fo xs ys (its, F9, pgs, F, P, T)) (hk : k ≤ its.length) (hn5 : its.length ≤ 512) (hpg : pgs.length ≤ 512) (hok9 : c_ok 4004001 (its, F9, pgs, F, P, T) k) : mV l y_PM_lookFrom w_PM_lookFrom ({ frames := 8, cells := 7 * ((c_run 4004001 (its, F9, pgs, F, P, T) k).1.2.2.1.length - pgs.length), slots := 933 * ((c_run 4004001 (its, F9, pgs, F, P, T) k).1.2.2.1.length - pgs.length), locals := 192 }) G L f sz [.ref pm, .int (nI k)] (7 * ((c_run 4004001 (its, F9, pgs, F, P, T) k).1.2.2.1.length - pgs.length)) (933 * ((c_run 4004001 (its, F9, pgs, F, P, T) k).1.2.2.1.length - pgs.length)) (fun u => ∃ ed1 op1 to1 sa1 fo1 ys1, RX G u.1 u.2 pm al ad el ed1 fr op1 to1 sa1 fo1 xs ys1 (c_run 4004001 (its, F9, pgs, F, P, T) k).1) := by
  refine pz_met (cc := prog_1_method_19_code) (maxL := 5) (ret := none) (by decide) rfl (Nat.le_of_ble_eq_true rfl) ?_
  intro p e s m below meth c ls hx hb hr hml hts hown hlocks hin hsz hK hP hD hS hA hz hl
  have htb : ∀ w ∈ TB, w.before _ s = true := fun w h => hts w (List.mem_cons_of_mem _ h)
  have hl : lv_has ls 5 [(0, .ref pm), (1, .int (nI k))] := hl
  refine W.widen (k := 7 * (pgs.length - pgs.length)) (n := 933 * (pgs.length - pgs.length)) (Nat.zero_le _) (Nat.zero_le _) ?_
  refine lv_iload_n hx hb d_PM_lookFrom_0 rfl (lv_at hl 1 rfl) ?_
  refine lv_istore_n (lv' := [(2, .int (nI k)), (0, .ref pm), (1, .int (nI k))]) hx hb d_PM_lookFrom_1 rfl hl (by decide) rfl (fun ls hl => ?_)
  refine lv_iconst (v := 0) hx hb d_PM_lookFrom_2 (by decide) ?_
  refine lv_istore_n (lv' := [(3, .int 0), (2, .int (nI k)), (0, .ref pm), (1, .int (nI k))]) hx hb d_PM_lookFrom_3 rfl hl (by decide) rfl (fun ls hl => ?_)
  exact lp_lookFrom l G L f sz pm al ad el fr k xs its F9 pgs.length _ hx hb hr hml hts hown hlocks hK hA hz hn5 4004001 _ k L f s.heap [] ls op to sa fo ed ys (Nat.le_refl _) rfl rfl hk (Nat.le_refl _) hpg hok9 rfl hR hP hD hS (lv_sub hl [2, 1, 0] rfl)
