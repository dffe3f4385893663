/-! PageMaker: totalsOf, breakEndsPage -/
/-- a break is looked at -/
def o_at (P : Op) (T : Tt) (F : Fr) (pl : Int32) (len : Int64) (p : Int32) : Bool × Op := if o_ends (k_cost (o_bad T F.1 len) p) p then (true, o_end (o_best P pl (o_bad T F.1 len) (k_cost (o_bad T F.1 len) p)) pl) else (false, o_best P pl (o_bad T F.1 len) (k_cost (o_bad T F.1 len) p))
def c_prev (its : List It) (k : Nat) : Option It := match k with
  | 0 => none
  | j + 1 => its[j]?
/-- what the class does at the place k: does a break end the page, and what is the page then -/
def c_look (P : Op) (T : Tt) (F : Fr) (k : Nat) (it : It) (pv : Option It) : Bool × Op := if P.1 = (-1) then (false, P) else match pv with
  | none => (false, P)
  | some pi => match it with
    | .inr (.inr (.inr p)) => if p < 10000 then o_at P T F (nI k) T.1 p else (false, P)
    | .inr (.inl _) => match pi with
      | .inl _ => o_at P T F (nI k) T.1 0
      | .inr (.inr (.inl _)) => o_at P T F (nI (k - 1)) P.2.1 0
      | _ => (false, P)
    | _ => (false, P)
theorem c_no {L : List Nat} {f : Nat → va_E} {op to fo : Nat} {P : Op} {X : Bool × Op} (h : X = (false, P)) (hfo : f op = opE to fo P) : ((0 : Int32) = 1 ∨ (0 : Int32) = 0) ∧ ((0 : Int32) = 1 ↔ X.1 = true) ∧ (L, f) = (L, va_up f op (opE to fo X.2)) := by
  subst h
  refine ⟨Or.inr rfl, ⟨fun h => absurd h (by decide), fun h => absurd h Bool.false_ne_true⟩, ?_⟩
  show (L, f) = (L, va_up f op (opE to fo P))
  rw [← hfo, pz_up_same]
theorem k_pred {k : Nat} (hk : k < 2 ^ 31) (h : 0 ≤ nI k - 1) : ∃ j, k = j + 1 := by
  cases k with
  | zero => exact absurd h (by decide)
  | succ j => exact ⟨j, rfl⟩
theorem c_prev_none {its : List It} {k : Nat} (hk : k < its.length ∧ its.length ≤ 512) (h : ¬ (0 ≤ nI k - 1 ∧ nI k - 1 < nI its.length)) : c_prev its k = none := by
  cases k with
  | zero => rfl
  | succ j =>
    refine absurd ?_ h
    rw [nI_pred]
    exact ⟨nI_pos' (by omega), nI_lt (by omega) (by omega)⟩
set_option maxHeartbeats 4000000 in
set_option maxRecDepth 100000 in
/-- totalsOf(fr2, a, b) -/
theorem c_PM_totalsOf (l : Launch) (G : gG) (L : List Nat) (f : Nat → va_E) (sz : Nat) (pm al ad el fr op fr2 a b : Nat) (xs : List Nat) (its : List It) (F : Fr) (b0 b1 : Int32) (hp : pm ∈ L) (hfp : f pm = .inr (4, [.ref al, .ref el, .ref fr, .ref op])) (h_al : LR G L f al ad xs) (hX : XR L f xs its) (hr2 : fr2 ∈ L) (hfr2 : f fr2 = frE F) (hab : a ≤ b) (hbn : b ≤ its.length) (hn5 : its.length ≤ 512) (hbx : its[a]? = some (.inl (b0, b1))) : mR l y_PM_totalsOf w_PM_totalsOf ({ frames := 3, cells := 2, slots := 8, locals := 64 }) G L f sz [.ref pm, .ref fr2, .int (nI a), .int (nI b)] 2 8 (fun u => u.1 ∉ L ∧ ∃ sa2, sa2 ∉ L ∧ sa2 ≠ u.1 ∧ u.2.1 = L ++ [u.1] ++ [sa2] ∧ u.2.2 u.1 = toE sa2 (t_list its F a b) ∧ u.2.2 sa2 = saE G (t_list its F a b) ∧ ∀ z, z ≠ u.1 → z ≠ sa2 → u.2.2 z = f z) := by
  refine pz_met (cc := prog_1_method_23_code) (maxL := 7) (ret := (some (.object "PageMaker$Totals"))) (by decide) rfl (Nat.le_of_ble_eq_true rfl) ?_
  intro p e s m below meth c ls hx hb hr hml hts hown hlocks hin hsz hK hP hD hS hA hz hl
  have htb : ∀ w ∈ TB, w.before _ s = true := fun w h => hts w (List.mem_cons_of_mem _ h)
  have hl : lv_has ls 7 [(0, .ref pm), (1, .ref fr2), (2, .int (nI a)), (3, .int (nI b))] := hl
  have hxl : xs.length = its.length := hX.1
  have ha1 : a < its.length := (List.getElem?_eq_some_iff.mp hbx).1
  obtain ⟨x, hx9⟩ : ∃ x, xs[a]? = some x := ⟨_, List.getElem?_eq_getElem (by omega)⟩
  obtain ⟨hxL, hfx, -⟩ := hX.2 a x _ hx9 hbx
  refine pz_new (ci := 3) (fs := [.null, .long 0, .long 0, .long 0]) (C := "PageMaker$Totals") (T := T_TO) (N := 4) hx hb htb in_TO ty_TO to_TO hown (htb _ tw_452) (htb _ tw_91) (htb _ tw_7) hK hP hD hS hA rfl (fun j hj => by rcases (show j = 0 ∨ j = 1 ∨ j = 2 ∨ j = 3 by omega) with rfl | rfl | rfl | rfl <;> rfl) (Nat.le_of_ble_eq_true rfl) (Nat.le_of_ble_eq_true rfl) d_PM_totalsOf_0 (fun q1 L2 f3 H hnq1 eL2 ef3 hP hD hS => ?_)
  subst L2
  refine lv_dup hx hb d_PM_totalsOf_3 rfl ?_
  have h_4 : f3 q1 = .inr (3, [.null, .long 0, .long 0, .long 0]) := by rw [ef3]; exact va_up_self _ _ _
  refine pz_cv (va_runIN (As := []) (rest := [.ref q1]) ⟨hx, hb, hml, hown, hts⟩ (c_TO_init l G (L ++ [q1]) f3 _ q1 0 0 0 (l_in_new _ _) h_4) ⟨va_cnB 0 hts (tb_good tw_94) rfl rfl rfl (hz.1 _ tn_453) (htb _ tw_7) (by decide +kernel) ⟨(Nat.le_of_ble_eq_true rfl), (Nat.le_of_ble_eq_true rfl)⟩, rfl, htb _ tw_93⟩ (pz_pre (zz_ok _ _ _) hK hP hD hS hA hz) rfl rfl hl.1 rfl (lv_room (Nat.le_of_ble_eq_true rfl)) d_PM_totalsOf_4 ⟨(Nat.le_of_ble_eq_true rfl), (Nat.le_of_ble_eq_true rfl)⟩) hP hD hS hA (fun L6 f5 H locs hw hP hD hS => ?_)
  obtain ⟨sa2, hnsa2, hw⟩ := hw
  have eL6 : L6 = (L ++ [q1]) ++ [sa2] := (Prod.mk.inj hw).1
  obtain ⟨f7, ef7⟩ : ∃ y, y = va_up f3 sa2 (.inl (cJ G, 4, .inr (.inl (fun _ => 0)))) := ⟨_, rfl⟩
  subst L6
  have ef5 : f5 = va_up (f7) q1 (.inr (3, [.ref sa2, .long t_0.1, .long t_0.2.1, .long t_0.2.2.1])) := (Prod.mk.inj hw).2.trans (by rw [ef7]; rfl)
  refine W.widen (k := 2) (n := 8) (by decide) (by decide) ?_
  have hkeep : ∀ z, z ≠ q1 → z ≠ sa2 → f5 z = f z := fun z h1 h2 => by rw [ef5, va_up_ne _ _ h1, ef7, va_up_ne _ _ h2, ef3, va_up_ne _ _ h1]
  have hn2 : sa2 ∉ L := fun h => hnsa2 (List.mem_append_left _ h)
  have hn3 : sa2 ≠ q1 := fun h => hnsa2 (by rw [h]; exact l_in_new _ _)
  have hold : ∀ z, z ∈ L → f5 z = f z := fun z hz => hkeep z (Ne.symm (pz_nef hnq1 hz)) (Ne.symm (pz_nef hn2 hz))
  have hsub : ∀ z, z ∈ L → z ∈ L ++ [q1] ++ [sa2] := fun z hz => List.mem_append_left _ (List.mem_append_left _ hz)
  have hal1 : LR G (L ++ [q1] ++ [sa2]) f5 al ad xs := lr_keep h_al hsub (hold _ h_al.choose_spec.1) (fun h => hold _ h)
  have hpm1 : f5 pm = .inr (4, [.ref al, .ref el, .ref fr, .ref op]) := (hold _ hp).trans hfp
  have hfr1 : f5 fr2 = frE F := (hold _ hr2).trans hfr2
  have hfx1 : f5 x = itE (.inl (b0, b1)) := (hold _ hxL).trans hfx
  obtain ⟨mo_al, hm_al, hc_al, -⟩ := id hal1
  refine lv_astore (lv' := [(4, .ref q1), (0, .ref pm), (1, .ref fr2), (2, .int (nI a)), (3, .int (nI b))]) hx hb d_PM_totalsOf_7 hl (by decide) rfl (fun ls hl => ?_)
  refine lv_aload_n hx hb d_PM_totalsOf_9 rfl (lv_at hl 1 rfl) ?_
  refine lv_iload_n hx hb d_PM_totalsOf_10 rfl (lv_at hl 3 rfl) ?_
  refine vp_callSi (va_Run.run (va_runV (As := [.int (nI a)]) (rest := []) ⟨hx, hb, hml, hown, hts⟩ (c_PM_isItem l G ((L ++ [q1]) ++ [sa2]) f5 _ pm al el fr op ad xs (nI a) (hsub _ hp) hpm1 hal1) (cwV 1 hts (tb_V tw_386 tw_388 tp_7 tw_1 tw_389) rfl rfl rfl (by decide +kernel) ⟨(Nat.le_of_ble_eq_true rfl), (Nat.le_of_ble_eq_true rfl)⟩) (pz_preV (zz_ok _ _ _) hK hP hD hS hA hz (ci := 4) rfl rfl (hsub _ hp) hpm1) rfl rfl hl.1 rfl (lv_room (Nat.le_of_ble_eq_true rfl)) d_PM_totalsOf_11 ⟨(Nat.le_of_ble_eq_true rfl), (Nat.le_of_ble_eq_true rfl)⟩)) (fun r8 hw => ?_)
  have hw : r8 = 1 := k_by (show k_b (0 ≤ nI a ∧ nI a < nI xs.length) r8 from hw) ⟨nI_pos' (by omega), nI_lt (by omega) (by omega)⟩
  subst hw
  refine lv_if_eq (tgt := 50) hx hb d_PM_totalsOf_14 (by decide) (fun c0 => absurd c0 (by decide)) (fun _ => ?_)
  refine lv_aload_n hx hb d_PM_totalsOf_17 rfl (lv_at hl 1 rfl) ?_
  refine pz_get (ci := 4) (C := "PageMaker") (T := T_PM) (N := 4) hx hb htb in_PM hown hK hP (hsub _ hp) hpm1 rfl 0 (by decide) (htb _ tw_160) (fun _ h9 => h9) rfl d_PM_totalsOf_18 ?_
  refine lv_iload_n hx hb d_PM_totalsOf_21 rfl (lv_at hl 3 rfl) ?_
  refine va_csq (va_Run.run (va_runV (As := [.int (nI a)]) (rest := []) ⟨hx, hb, hml, hown, hts⟩ (al_get l G ((L ++ [q1]) ++ [sa2]) f5 _ al ad xs a x hal1 hx9) (cwV 1 hts (tb_V tw_390 tw_391 tw_392 tw_4 tw_393) rfl rfl rfl (by decide +kernel) ⟨(Nat.le_of_ble_eq_true rfl), (Nat.le_of_ble_eq_true rfl)⟩) (pz_preV (zz_ok _ _ _) hK hP hD hS hA hz (ci := 0) rfl rfl hm_al hc_al) rfl rfl hl.1 rfl (lv_room (Nat.le_of_ble_eq_true rfl)) d_PM_totalsOf_22 ⟨(Nat.le_of_ble_eq_true rfl), (Nat.le_of_ble_eq_true rfl)⟩)) (fun r9 hw => ?_)
  have hw : r9 = some x := hw
  subst hw
  refine W.eq (g2 := F0 m 25 ls [.ref x]) rfl ?_
  refine lv_astore (lv' := [(6, .ref x), (4, .ref q1), (0, .ref pm), (1, .ref fr2), (2, .int (nI a)), (3, .int (nI b))]) hx hb d_PM_totalsOf_25 hl (by decide) rfl (fun ls hl => ?_)
  refine lv_aload hx hb d_PM_totalsOf_27 (lv_at hl 0 rfl) ?_
  refine va_instE hx hb hown (htb _ tw_298) (pz_recv hK hP (ci := 5) rfl (hsub _ hxL) hfx1) d_PM_totalsOf_29 ?_
  refine lv_if_eq (tgt := 50) hx hb d_PM_totalsOf_32 (by decide) (fun c0 => absurd c0 (by decide)) (fun _ => ?_)
  refine lv_aload hx hb d_PM_totalsOf_35 (lv_at hl 0 rfl) ?_
  refine va_castE hx hb hown (htb _ tw_298) (pz_recv hK hP (ci := 5) rfl (hsub _ hxL) hfx1) d_PM_totalsOf_37 ?_
  refine lv_astore (lv' := [(5, .ref x), (6, .ref x), (4, .ref q1), (0, .ref pm), (1, .ref fr2), (2, .int (nI a)), (3, .int (nI b))]) hx hb d_PM_totalsOf_40 hl (by decide) rfl (fun ls hl => ?_)
  refine lv_aload hx hb d_PM_totalsOf_42 (lv_at hl 2 rfl) ?_
  refine lv_aload_n hx hb d_PM_totalsOf_44 rfl (lv_at hl 4 rfl) ?_
  refine lv_aload hx hb d_PM_totalsOf_45 (lv_at hl 0 rfl) ?_
  have h_10 : f5 q1 = .inr (3, [.ref sa2, .long t_0.1, .long t_0.2.1, .long t_0.2.2.1]) := by rw [ef5]; exact va_up_self _ _ _
  refine pz_cv (va_runV (As := [.ref fr2, .ref x]) (rest := []) ⟨hx, hb, hml, hown, hts⟩ (c_TO_addTopGlue l G ((L ++ [q1]) ++ [sa2]) f5 _ q1 sa2 fr2 x t_0.1 t_0.2.1 t_0.2.2.1 F.1 F.2.1 F.2.2 b0 b1 (List.mem_append_left _ (l_in_new _ _)) h_10 (hsub _ hr2) hfr1 (hsub _ hxL) hfx1) (cwV 2 hts (tb_V tw_454 tw_455 tw_456 tw_7 tw_457) rfl rfl rfl (by decide +kernel) ⟨(Nat.le_of_ble_eq_true rfl), (Nat.le_of_ble_eq_true rfl)⟩) (pz_preV (zz_ok _ _ _) hK hP hD hS hA hz (ci := 3) rfl rfl (List.mem_append_left _ (l_in_new _ _)) h_10) rfl rfl hl.1 rfl (lv_room (Nat.le_of_ble_eq_true rfl)) d_PM_totalsOf_47 ⟨(Nat.le_of_ble_eq_true rfl), (Nat.le_of_ble_eq_true rfl)⟩) hP hD hS hA (fun L12 f11 H locs hw hP hD hS => ?_)
  have ef11 : f11 = va_up (f5) q1 (toE sa2 (t_sp (k_top F.2.1 b0) t_0)) := (Prod.mk.inj hw).2
  have eL12 : L12 = ((L ++ [q1]) ++ [sa2]) := (Prod.mk.inj hw).1
  subst L12
  refine lv_iload_n hx hb d_PM_totalsOf_50 rfl (lv_at hl 5 rfl) ?_
  refine lv_istore (lv' := [(5, .int (nI a)), (6, .ref x), (4, .ref q1), (0, .ref pm), (1, .ref fr2), (2, .int (nI a)), (3, .int (nI b))]) hx hb d_PM_totalsOf_51 hl (by decide) rfl (fun ls hl => ?_)
  have hT9 : t_list its F a b = t_run its F.2.2 a (b - a) (t_sp (k_top F.2.1 b0) t_0) := by rw [t_list, t_top, hbx]
  have h_15 : f7 sa2 = .inl (cJ G, 4, .inr (.inl (fun _ => 0))) := by rw [ef7]; exact va_up_self _ _ _
  have h_14 : f5 sa2 = .inl (cJ G, 4, .inr (.inl (fun _ => 0))) := by rw [ef5, va_up_ne _ _ (pz_nef hnsa2 (l_in_new _ _))]; exact h_15
  have h_13 : f11 sa2 = .inl (cJ G, 4, .inr (.inl (fun _ => 0))) := by rw [ef11, va_up_ne _ _ (pz_nef hnsa2 (l_in_new _ _))]; exact h_14
  exact lp_totalsOf l G L f sz pm al ad el fr op fr2 q1 sa2 x a b xs its F hx hb hr hml hts hown hlocks hK hA hz hp hfp h_al hX hr2 hfr2 hnq1 hn2 hn3 hbn hn5 (b - a) a (t_sp (k_top F.2.1 b0) t_0) f11 H locs ls (by omega) hT9.symm (by rw [ef11]; exact va_up_self _ _ _) (by rw [ef11, va_up_ne _ _ hn3]; exact h_14) (fun z h1 h2 => by rw [ef11, va_up_ne _ _ h1]; exact hkeep z h1 h2) hP hD hS (lv_sub hl [3, 4, 5, 6, 2, 0, 1] rfl)
set_option maxHeartbeats 4000000 in
set_option maxRecDepth 100000 in
/-- breakEndsPage(k, x) -/
theorem c_PM_breakEndsPage (l : Launch) (G : gG) (L : List Nat) (f : Nat → va_E) (sz : Nat) (pm al ad el ed fr op to sa fo : Nat) (xs : List Nat) (its : List It) (F F9 : Fr) (P : Op) (T : Tt) (k x : Nat) (it : It) (hp : pm ∈ L) (hfp : f pm = .inr (4, [.ref al, .ref el, .ref fr, .ref op])) (h_al : LR G L f al ad xs) (hX : XR L f xs its) (hr9 : fr ∈ L) (hfr : f fr = frE F9) (ho : op ∈ L) (hfo : f op = opE to fo P) (ht : to ∈ L) (hft : f to = toE sa T) (hs9 : sa ∈ L) (hsa : f sa = saE G T) (hr8 : fo ∈ L) (hfof : f fo = frE F) (hk : k < its.length) (hx9 : xs[k]? = some x) (hi9 : its[k]? = some it) (hn5 : its.length ≤ 512) : mI l y_PM_breakEndsPage w_PM_breakEndsPage ({ frames := 3, cells := 0, slots := 0, locals := 73 }) G L f sz [.ref pm, .int (nI k), .ref x] 0 0 (fun r u => (r = 1 ∨ r = 0) ∧ (r = 1 ↔ (c_look P T F k it (c_prev its k)).1 = true) ∧ u = (L, va_up f op (opE to fo (c_look P T F k it (c_prev its k)).2))) := by
  refine pz_met (cc := prog_1_method_20_code) (maxL := 4) (ret := (some .boolean)) (by decide) rfl (Nat.le_of_ble_eq_true rfl) ?_
  intro p e s m below meth c ls hx hb hr hml hts hown hlocks hin hsz hK hP hD hS hA hz hl
  have htb : ∀ w ∈ TB, w.before _ s = true := fun w h => hts w (List.mem_cons_of_mem _ h)
  have hl : lv_has ls 4 [(0, .ref pm), (1, .int (nI k)), (2, .ref x)] := hl
  obtain ⟨mo_al, hm_al, hc_al, -⟩ := id h_al
  have hxl : xs.length = its.length := hX.1
  obtain ⟨hxL, hfx, hok⟩ := hX.2 k x it hx9 hi9
  refine lv_aload_n hx hb d_PM_breakEndsPage_0 rfl (lv_at hl 0 rfl) ?_
  refine pz_get (ci := 4) (C := "PageMaker") (T := T_PM) (N := 4) hx hb htb in_PM hown hK hP hp hfp rfl 3 (by decide) (htb _ tw_163) (fun _ h9 => h9) rfl d_PM_breakEndsPage_1 ?_
  refine vp_callSi (va_Run.run (va_runV (As := []) (rest := []) ⟨hx, hb, hml, hown, hts⟩ (c_OP_hasBegun l G L f _ op to fo P.1 P.2.2.1 P.2.2.2.1 P.2.2.2.2.1 P.2.2.2.2.2 P.2.1 ho hfo) (cwV 0 hts (tb_V tw_409 tw_410 tw_411 tw_6 tw_412) rfl rfl rfl (by decide +kernel) ⟨(Nat.le_of_ble_eq_true rfl), (Nat.le_of_ble_eq_true rfl)⟩) (pz_preV (zz_ok _ _ _) hK hP hD hS hA hz (ci := 2) rfl rfl ho hfo) rfl rfl hl.1 rfl (lv_room (Nat.le_of_ble_eq_true rfl)) d_PM_breakEndsPage_4 ⟨(Nat.le_of_ble_eq_true rfl), (Nat.le_of_ble_eq_true rfl)⟩)) (fun r1 hw => ?_)
  rcases (show k_b (¬ P.1 = (-1)) r1 from hw) with ⟨rfl, hq2⟩ | ⟨rfl, hq2⟩
  · refine lv_if_eq (tgt := 20) hx hb d_PM_breakEndsPage_7 (by decide) (fun c0 => absurd c0 (by decide)) (fun _ => ?_)
    refine lv_aload_n hx hb d_PM_breakEndsPage_10 rfl (lv_at hl 0 rfl) ?_
    refine lv_iload_n hx hb d_PM_breakEndsPage_11 rfl (lv_at hl 1 rfl) ?_
    refine lv_iconst (v := 1) hx hb d_PM_breakEndsPage_12 (by decide) ?_
    refine lv_isub hx hb d_PM_breakEndsPage_13 ?_
    refine vp_callSi (va_Run.run (va_runV (As := [.int (nI k - 1)]) (rest := []) ⟨hx, hb, hml, hown, hts⟩ (c_PM_isItem l G L f _ pm al el fr op ad xs (nI k - 1) hp hfp h_al) (cwV 1 hts (tb_V tw_386 tw_388 tp_7 tw_1 tw_389) rfl rfl rfl (by decide +kernel) ⟨(Nat.le_of_ble_eq_true rfl), (Nat.le_of_ble_eq_true rfl)⟩) (pz_preV (zz_ok _ _ _) hK hP hD hS hA hz (ci := 4) rfl rfl hp hfp) rfl rfl hl.1 rfl (lv_room (Nat.le_of_ble_eq_true rfl)) d_PM_breakEndsPage_14 ⟨(Nat.le_of_ble_eq_true rfl), (Nat.le_of_ble_eq_true rfl)⟩)) (fun r3 hw => ?_)
    rcases (show k_b (0 ≤ nI k - 1 ∧ nI k - 1 < nI xs.length) r3 from hw) with ⟨rfl, hq4⟩ | ⟨rfl, hq4⟩
    · refine lv_if_ne (tgt := 22) hx hb d_PM_breakEndsPage_17 (by decide) (fun _ => ?_) (fun c0 => absurd c0 (by decide))
      obtain ⟨j, rfl⟩ := k_pred (by omega) hq4.1
      obtain ⟨x1, hx1⟩ : ∃ x, xs[j]? = some x := ⟨_, List.getElem?_eq_getElem (by omega)⟩
      obtain ⟨it1, hi1⟩ : ∃ it, its[j]? = some it := ⟨_, List.getElem?_eq_getElem (by omega)⟩
      obtain ⟨hx1L, hfx1, hok1⟩ := hX.2 j x1 it1 hx1 hi1
      have hpv : c_prev its (j + 1) = some it1 := hi1
      refine lv_aload_n hx hb d_PM_breakEndsPage_22 rfl (lv_at hl 2 rfl) ?_
      rcases it with ⟨ia, ib⟩ | ⟨ia, ib, io, id9⟩ | ia | ia
      · refine va_instNo (C := "PageMaker$Box") hx hb hown (htb _ tw_413) (hz.2.1 ("PageMaker$Box", "PageMaker$Penalty") (by decide +kernel)) (pz_recv hK hP (ci := 5) rfl hxL hfx) d_PM_breakEndsPage_23 ?_
        refine lv_if_eq (tgt := 75) hx hb d_PM_breakEndsPage_26 (by decide) (fun _ => ?_) (fun c0 => absurd c0 (by decide))
        refine lv_aload_n hx hb d_PM_breakEndsPage_75 rfl (lv_at hl 2 rfl) ?_
        refine va_instNo (C := "PageMaker$Box") hx hb hown (htb _ tw_440) (hz.2.1 ("PageMaker$Box", "PageMaker$Glue") (by decide +kernel)) (pz_recv hK hP (ci := 5) rfl hxL hfx) d_PM_breakEndsPage_76 ?_
        refine lv_if_ne (tgt := 84) hx hb d_PM_breakEndsPage_79 (by decide) (fun c0 => absurd c0 (by decide)) (fun _ => ?_)
        refine lv_iconst (v := 0) hx hb d_PM_breakEndsPage_82 (by decide) ?_
        exact pz_iret hx hb hr rfl hlocks hK hP hD hS (Nat.le_of_ble_eq_true rfl) (Nat.le_of_ble_eq_true rfl) (c_no (by rw [hpv]; exact if_neg hq2) hfo) d_PM_breakEndsPage_83
      · refine va_instNo (C := "PageMaker$Glue") hx hb hown (htb _ tw_413) (hz.2.1 ("PageMaker$Glue", "PageMaker$Penalty") (by decide +kernel)) (pz_recv hK hP (ci := 6) rfl hxL hfx) d_PM_breakEndsPage_23 ?_
        refine lv_if_eq (tgt := 75) hx hb d_PM_breakEndsPage_26 (by decide) (fun _ => ?_) (fun c0 => absurd c0 (by decide))
        refine lv_aload_n hx hb d_PM_breakEndsPage_75 rfl (lv_at hl 2 rfl) ?_
        refine va_instE hx hb hown (htb _ tw_440) (pz_recv hK hP (ci := 6) rfl hxL hfx) d_PM_breakEndsPage_76 ?_
        refine lv_if_ne (tgt := 84) hx hb d_PM_breakEndsPage_79 (by decide) (fun _ => ?_) (fun c0 => absurd c0 (by decide))
        refine lv_aload_n hx hb d_PM_breakEndsPage_84 rfl (lv_at hl 0 rfl) ?_
        refine pz_get (ci := 4) (C := "PageMaker") (T := T_PM) (N := 4) hx hb htb in_PM hown hK hP hp hfp rfl 0 (by decide) (htb _ tw_160) (fun _ h9 => h9) rfl d_PM_breakEndsPage_85 ?_
        refine lv_iload_n hx hb d_PM_breakEndsPage_88 rfl (lv_at hl 1 rfl) ?_
        refine lv_iconst (v := 1) hx hb d_PM_breakEndsPage_89 (by decide) ?_
        refine lv_isub hx hb d_PM_breakEndsPage_90 ?_
        refine lv_topi (fun x5 ex5 => ?_)
        have ex5 : x5 = nI j := ex5.trans (nI_pred j)
        subst ex5
        refine va_csq (va_Run.run (va_runV (As := [.int (nI j)]) (rest := []) ⟨hx, hb, hml, hown, hts⟩ (al_get l G L f _ al ad xs j x1 h_al hx1) (cwV 1 hts (tb_V tw_390 tw_391 tw_392 tw_4 tw_393) rfl rfl rfl (by decide +kernel) ⟨(Nat.le_of_ble_eq_true rfl), (Nat.le_of_ble_eq_true rfl)⟩) (pz_preV (zz_ok _ _ _) hK hP hD hS hA hz (ci := 0) rfl rfl hm_al hc_al) rfl rfl hl.1 rfl (lv_room (Nat.le_of_ble_eq_true rfl)) d_PM_breakEndsPage_91 ⟨(Nat.le_of_ble_eq_true rfl), (Nat.le_of_ble_eq_true rfl)⟩)) (fun r6 hw => ?_)
        have hw : r6 = some x1 := hw
        subst hw
        refine W.eq (g2 := F0 m 94 ls [.ref x1]) rfl ?_
        rcases it1 with ⟨ja, jb⟩ | ⟨ja, jb, jo, jd9⟩ | ja | ja
        · refine va_castY (C := "PageMaker$Box") hx hb hown (htb _ tw_404) (hz.1 _ tn_884) (pz_recv hK hP (ci := 5) rfl hx1L hfx1) d_PM_breakEndsPage_94 ?_
          refine lv_astore_n (lv' := [(3, .ref x1), (0, .ref pm), (1, .int (nI (j + 1))), (2, .ref x)]) hx hb d_PM_breakEndsPage_97 rfl hl (by decide) rfl (fun ls hl => ?_)
          refine lv_aload_n hx hb d_PM_breakEndsPage_98 rfl (lv_at hl 0 rfl) ?_
          refine va_instE hx hb hown (htb _ tw_298) (pz_recv hK hP (ci := 5) rfl hx1L hfx1) d_PM_breakEndsPage_99 ?_
          refine lv_if_eq (tgt := 125) hx hb d_PM_breakEndsPage_102 (by decide) (fun c0 => absurd c0 (by decide)) (fun _ => ?_)
          refine lv_aload_n hx hb d_PM_breakEndsPage_105 rfl (lv_at hl 1 rfl) ?_
          refine pz_get (ci := 4) (C := "PageMaker") (T := T_PM) (N := 4) hx hb htb in_PM hown hK hP hp hfp rfl 3 (by decide) (htb _ tw_163) (fun _ h9 => h9) rfl d_PM_breakEndsPage_106 ?_
          refine lv_iload_n hx hb d_PM_breakEndsPage_109 rfl (lv_at hl 2 rfl) ?_
          refine lv_aload_n hx hb d_PM_breakEndsPage_110 rfl (lv_at hl 1 rfl) ?_
          refine pz_get (ci := 4) (C := "PageMaker") (T := T_PM) (N := 4) hx hb htb in_PM hown hK hP hp hfp rfl 3 (by decide) (htb _ tw_163) (fun _ h9 => h9) rfl d_PM_breakEndsPage_111 ?_
          refine pz_get (ci := 2) (C := "PageMaker$OpenPage") (T := T_OP) (N := 8) hx hb htb in_OP hown hK hP ho hfo rfl 0 (by decide) (htb _ tw_124) (fun _ h9 => h9) rfl d_PM_breakEndsPage_114 ?_
          refine pz_get (ci := 3) (C := "PageMaker$Totals") (T := T_TO) (N := 4) hx hb htb in_TO hown hK hP ht hft rfl 1 (by decide) (htb _ tw_104) (fun _ h9 => h9) rfl d_PM_breakEndsPage_117 ?_
          refine lv_iconst (v := 0) hx hb d_PM_breakEndsPage_120 (by decide) ?_
          refine pz_ci (va_runV (As := [.int (nI (j + 1)), .long T.1, .int 0]) (rest := []) ⟨hx, hb, hml, hown, hts⟩ (c_OP_endsAtBreak l G L f _ op to sa fo P T F (nI (j + 1)) 0 T.1 ho hfo ht hft hs9 hsa hr8 hfof) (cwV 3 hts (tb_V tw_414 tw_415 tw_416 tw_6 tw_417) rfl rfl rfl (by decide +kernel) ⟨(Nat.le_of_ble_eq_true rfl), (Nat.le_of_ble_eq_true rfl)⟩) (pz_preV (zz_ok _ _ _) hK hP hD hS hA hz (ci := 2) rfl rfl ho hfo) rfl rfl hl.1 rfl (lv_room (Nat.le_of_ble_eq_true rfl)) d_PM_breakEndsPage_121 ⟨(Nat.le_of_ble_eq_true rfl), (Nat.le_of_ble_eq_true rfl)⟩) hP hD hS hA (fun r9 L9 f9 H locs hw hP hD hS => ?_)
          have hlk : c_look P T F (j + 1) (.inr (.inl (ia, ib, io, id9))) (c_prev its (j + 1)) = o_at P T F (nI (j + 1)) T.1 0 := by rw [hpv]; exact if_neg hq2
          obtain ⟨hb9, h1, h0⟩ := hw
          rcases hb9 with ⟨rfl, hb9⟩ | ⟨rfl, hb9⟩
          · have e9 := Prod.mk.inj (h1 rfl)
            have eL9 : L9 = L := e9.1
            have ef9 := e9.2
            subst L9
            exact pz_iret hx hb hr rfl hlocks hK hP hD hS (Nat.le_of_ble_eq_true rfl) (Nat.le_of_ble_eq_true rfl) ⟨Or.inl rfl, ⟨fun _ => by rw [hlk, o_at, if_pos hb9], fun _ => rfl⟩, by rw [hlk, o_at, if_pos hb9]; exact congrArg (Prod.mk L) ef9⟩ d_PM_breakEndsPage_124
          · have e9 := Prod.mk.inj (h0 rfl)
            have eL9 : L9 = L := e9.1
            have ef9 := e9.2
            subst L9
            exact pz_iret hx hb hr rfl hlocks hK hP hD hS (Nat.le_of_ble_eq_true rfl) (Nat.le_of_ble_eq_true rfl) ⟨Or.inr rfl, ⟨fun h => absurd h (by decide), fun h => by rw [hlk, o_at, if_neg hb9] at h; exact absurd h Bool.false_ne_true⟩, by rw [hlk, o_at, if_neg hb9]; exact congrArg (Prod.mk L) ef9⟩ d_PM_breakEndsPage_124
        · refine va_castY (C := "PageMaker$Glue") hx hb hown (htb _ tw_404) (hz.1 _ tn_885) (pz_recv hK hP (ci := 6) rfl hx1L hfx1) d_PM_breakEndsPage_94 ?_
          refine lv_astore_n (lv' := [(3, .ref x1), (0, .ref pm), (1, .int (nI (j + 1))), (2, .ref x)]) hx hb d_PM_breakEndsPage_97 rfl hl (by decide) rfl (fun ls hl => ?_)
          refine lv_aload_n hx hb d_PM_breakEndsPage_98 rfl (lv_at hl 0 rfl) ?_
          refine va_instNo (C := "PageMaker$Glue") hx hb hown (htb _ tw_298) (hz.2.1 ("PageMaker$Glue", "PageMaker$Box") (by decide +kernel)) (pz_recv hK hP (ci := 6) rfl hx1L hfx1) d_PM_breakEndsPage_99 ?_
          refine lv_if_eq (tgt := 125) hx hb d_PM_breakEndsPage_102 (by decide) (fun _ => ?_) (fun c0 => absurd c0 (by decide))
          refine lv_aload_n hx hb d_PM_breakEndsPage_125 rfl (lv_at hl 0 rfl) ?_
          refine va_instNo (C := "PageMaker$Glue") hx hb hown (htb _ tw_441) (hz.2.1 ("PageMaker$Glue", "PageMaker$Kern") (by decide +kernel)) (pz_recv hK hP (ci := 6) rfl hx1L hfx1) d_PM_breakEndsPage_126 ?_
          refine lv_if_eq (tgt := 157) hx hb d_PM_breakEndsPage_129 (by decide) (fun _ => ?_) (fun c0 => absurd c0 (by decide))
          refine lv_iconst (v := 0) hx hb d_PM_breakEndsPage_157 (by decide) ?_
          exact pz_iret hx hb hr rfl hlocks hK hP hD hS (Nat.le_of_ble_eq_true rfl) (Nat.le_of_ble_eq_true rfl) (c_no (by rw [hpv]; exact if_neg hq2) hfo) d_PM_breakEndsPage_158
        · refine va_castY (C := "PageMaker$Kern") hx hb hown (htb _ tw_404) (hz.1 _ tn_886) (pz_recv hK hP (ci := 7) rfl hx1L hfx1) d_PM_breakEndsPage_94 ?_
          refine lv_astore_n (lv' := [(3, .ref x1), (0, .ref pm), (1, .int (nI (j + 1))), (2, .ref x)]) hx hb d_PM_breakEndsPage_97 rfl hl (by decide) rfl (fun ls hl => ?_)
          refine lv_aload_n hx hb d_PM_breakEndsPage_98 rfl (lv_at hl 0 rfl) ?_
          refine va_instNo (C := "PageMaker$Kern") hx hb hown (htb _ tw_298) (hz.2.1 ("PageMaker$Kern", "PageMaker$Box") (by decide +kernel)) (pz_recv hK hP (ci := 7) rfl hx1L hfx1) d_PM_breakEndsPage_99 ?_
          refine lv_if_eq (tgt := 125) hx hb d_PM_breakEndsPage_102 (by decide) (fun _ => ?_) (fun c0 => absurd c0 (by decide))
          refine lv_aload_n hx hb d_PM_breakEndsPage_125 rfl (lv_at hl 0 rfl) ?_
          refine va_instE hx hb hown (htb _ tw_441) (pz_recv hK hP (ci := 7) rfl hx1L hfx1) d_PM_breakEndsPage_126 ?_
          refine lv_if_eq (tgt := 157) hx hb d_PM_breakEndsPage_129 (by decide) (fun c0 => absurd c0 (by decide)) (fun _ => ?_)
          refine lv_aload_n hx hb d_PM_breakEndsPage_132 rfl (lv_at hl 1 rfl) ?_
          refine pz_get (ci := 4) (C := "PageMaker") (T := T_PM) (N := 4) hx hb htb in_PM hown hK hP hp hfp rfl 3 (by decide) (htb _ tw_163) (fun _ h9 => h9) rfl d_PM_breakEndsPage_133 ?_
          refine lv_iload_n hx hb d_PM_breakEndsPage_136 rfl (lv_at hl 2 rfl) ?_
          refine lv_iconst (v := 1) hx hb d_PM_breakEndsPage_137 (by decide) ?_
          refine lv_isub hx hb d_PM_breakEndsPage_138 ?_
          refine lv_topi (fun x7 ex7 => ?_)
          have ex7 : x7 = nI j := ex7.trans (nI_pred j)
          subst ex7
          refine lv_aload_n hx hb d_PM_breakEndsPage_139 rfl (lv_at hl 1 rfl) ?_
          refine pz_get (ci := 4) (C := "PageMaker") (T := T_PM) (N := 4) hx hb htb in_PM hown hK hP hp hfp rfl 3 (by decide) (htb _ tw_163) (fun _ h9 => h9) rfl d_PM_breakEndsPage_140 ?_
          refine pz_get (ci := 2) (C := "PageMaker$OpenPage") (T := T_OP) (N := 8) hx hb htb in_OP hown hK hP ho hfo rfl 3 (by decide) (htb _ tw_132) (fun _ h9 => h9) rfl d_PM_breakEndsPage_143 ?_
          refine lv_iconst (v := 0) hx hb d_PM_breakEndsPage_146 (by decide) ?_
          refine pz_ci (va_runV (As := [.int (nI j), .long P.2.1, .int 0]) (rest := []) ⟨hx, hb, hml, hown, hts⟩ (c_OP_endsAtBreak l G L f _ op to sa fo P T F (nI j) 0 P.2.1 ho hfo ht hft hs9 hsa hr8 hfof) (cwV 3 hts (tb_V tw_414 tw_415 tw_416 tw_6 tw_417) rfl rfl rfl (by decide +kernel) ⟨(Nat.le_of_ble_eq_true rfl), (Nat.le_of_ble_eq_true rfl)⟩) (pz_preV (zz_ok _ _ _) hK hP hD hS hA hz (ci := 2) rfl rfl ho hfo) rfl rfl hl.1 rfl (lv_room (Nat.le_of_ble_eq_true rfl)) d_PM_breakEndsPage_147 ⟨(Nat.le_of_ble_eq_true rfl), (Nat.le_of_ble_eq_true rfl)⟩) hP hD hS hA (fun r9 L9 f9 H locs hw hP hD hS => ?_)
          have hlk : c_look P T F (j + 1) (.inr (.inl (ia, ib, io, id9))) (c_prev its (j + 1)) = o_at P T F (nI j) P.2.1 0 := by rw [hpv]; exact if_neg hq2
          obtain ⟨hb9, h1, h0⟩ := hw
          rcases hb9 with ⟨rfl, hb9⟩ | ⟨rfl, hb9⟩
          · have e9 := Prod.mk.inj (h1 rfl)
            have eL9 : L9 = L := e9.1
            have ef9 := e9.2
            subst L9
            refine lv_if_eq (tgt := 157) hx hb d_PM_breakEndsPage_150 (by decide) (fun c0 => absurd c0 (by decide)) (fun _ => ?_)
            refine lv_iconst (v := 1) hx hb d_PM_breakEndsPage_153 (by decide) ?_
            refine lv_goto (tgt := 158) hx hb d_PM_breakEndsPage_154 (by decide) ?_
            exact pz_iret hx hb hr rfl hlocks hK hP hD hS (Nat.le_of_ble_eq_true rfl) (Nat.le_of_ble_eq_true rfl) ⟨Or.inl rfl, ⟨fun _ => by rw [hlk, o_at, if_pos hb9], fun _ => rfl⟩, by rw [hlk, o_at, if_pos hb9]; exact congrArg (Prod.mk L) ef9⟩ d_PM_breakEndsPage_158
          · have e9 := Prod.mk.inj (h0 rfl)
            have eL9 : L9 = L := e9.1
            have ef9 := e9.2
            subst L9
            refine lv_if_eq (tgt := 157) hx hb d_PM_breakEndsPage_150 (by decide) (fun _ => ?_) (fun c0 => absurd c0 (by decide))
            refine lv_iconst (v := 0) hx hb d_PM_breakEndsPage_157 (by decide) ?_
            exact pz_iret hx hb hr rfl hlocks hK hP hD hS (Nat.le_of_ble_eq_true rfl) (Nat.le_of_ble_eq_true rfl) ⟨Or.inr rfl, ⟨fun h => absurd h (by decide), fun h => by rw [hlk, o_at, if_neg hb9] at h; exact absurd h Bool.false_ne_true⟩, by rw [hlk, o_at, if_neg hb9]; exact congrArg (Prod.mk L) ef9⟩ d_PM_breakEndsPage_158
        · refine va_castY (C := "PageMaker$Penalty") hx hb hown (htb _ tw_404) (hz.1 _ tn_887) (pz_recv hK hP (ci := 8) rfl hx1L hfx1) d_PM_breakEndsPage_94 ?_
          refine lv_astore_n (lv' := [(3, .ref x1), (0, .ref pm), (1, .int (nI (j + 1))), (2, .ref x)]) hx hb d_PM_breakEndsPage_97 rfl hl (by decide) rfl (fun ls hl => ?_)
          refine lv_aload_n hx hb d_PM_breakEndsPage_98 rfl (lv_at hl 0 rfl) ?_
          refine va_instNo (C := "PageMaker$Penalty") hx hb hown (htb _ tw_298) (hz.2.1 ("PageMaker$Penalty", "PageMaker$Box") (by decide +kernel)) (pz_recv hK hP (ci := 8) rfl hx1L hfx1) d_PM_breakEndsPage_99 ?_
          refine lv_if_eq (tgt := 125) hx hb d_PM_breakEndsPage_102 (by decide) (fun _ => ?_) (fun c0 => absurd c0 (by decide))
          refine lv_aload_n hx hb d_PM_breakEndsPage_125 rfl (lv_at hl 0 rfl) ?_
          refine va_instNo (C := "PageMaker$Penalty") hx hb hown (htb _ tw_441) (hz.2.1 ("PageMaker$Penalty", "PageMaker$Kern") (by decide +kernel)) (pz_recv hK hP (ci := 8) rfl hx1L hfx1) d_PM_breakEndsPage_126 ?_
          refine lv_if_eq (tgt := 157) hx hb d_PM_breakEndsPage_129 (by decide) (fun _ => ?_) (fun c0 => absurd c0 (by decide))
          refine lv_iconst (v := 0) hx hb d_PM_breakEndsPage_157 (by decide) ?_
          exact pz_iret hx hb hr rfl hlocks hK hP hD hS (Nat.le_of_ble_eq_true rfl) (Nat.le_of_ble_eq_true rfl) (c_no (by rw [hpv]; exact if_neg hq2) hfo) d_PM_breakEndsPage_158
      · refine va_instNo (C := "PageMaker$Kern") hx hb hown (htb _ tw_413) (hz.2.1 ("PageMaker$Kern", "PageMaker$Penalty") (by decide +kernel)) (pz_recv hK hP (ci := 7) rfl hxL hfx) d_PM_breakEndsPage_23 ?_
        refine lv_if_eq (tgt := 75) hx hb d_PM_breakEndsPage_26 (by decide) (fun _ => ?_) (fun c0 => absurd c0 (by decide))
        refine lv_aload_n hx hb d_PM_breakEndsPage_75 rfl (lv_at hl 2 rfl) ?_
        refine va_instNo (C := "PageMaker$Kern") hx hb hown (htb _ tw_440) (hz.2.1 ("PageMaker$Kern", "PageMaker$Glue") (by decide +kernel)) (pz_recv hK hP (ci := 7) rfl hxL hfx) d_PM_breakEndsPage_76 ?_
        refine lv_if_ne (tgt := 84) hx hb d_PM_breakEndsPage_79 (by decide) (fun c0 => absurd c0 (by decide)) (fun _ => ?_)
        refine lv_iconst (v := 0) hx hb d_PM_breakEndsPage_82 (by decide) ?_
        exact pz_iret hx hb hr rfl hlocks hK hP hD hS (Nat.le_of_ble_eq_true rfl) (Nat.le_of_ble_eq_true rfl) (c_no (by rw [hpv]; exact if_neg hq2) hfo) d_PM_breakEndsPage_83
      · refine va_instE hx hb hown (htb _ tw_413) (pz_recv hK hP (ci := 8) rfl hxL hfx) d_PM_breakEndsPage_23 ?_
        refine lv_if_eq (tgt := 75) hx hb d_PM_breakEndsPage_26 (by decide) (fun c0 => absurd c0 (by decide)) (fun _ => ?_)
        refine lv_aload_n hx hb d_PM_breakEndsPage_29 rfl (lv_at hl 2 rfl) ?_
        refine va_castE hx hb hown (htb _ tw_413) (pz_recv hK hP (ci := 8) rfl hxL hfx) d_PM_breakEndsPage_30 ?_
        refine lv_astore_n (lv' := [(3, .ref x), (0, .ref pm), (1, .int (nI (j + 1))), (2, .ref x)]) hx hb d_PM_breakEndsPage_33 rfl hl (by decide) rfl (fun ls hl => ?_)
        refine lv_aload_n hx hb d_PM_breakEndsPage_34 rfl (lv_at hl 0 rfl) ?_
        refine pz_get (ci := 8) (C := "PageMaker$Penalty") (T := T_PE) (N := 1) hx hb htb in_PE hown hK hP hxL hfx rfl 0 (by decide) (htb _ tw_599) (fun _ h9 => h9) rfl d_PM_breakEndsPage_35 ?_
        refine lv_sipush (v := 10000) hx hb d_PM_breakEndsPage_38 (by decide) ?_
        refine lv_icmp_ge (tgt := 73) hx hb d_PM_breakEndsPage_41 (by decide) (fun c_8 => ?_) (fun c_8 => ?_)
        · refine lv_iconst (v := 0) hx hb d_PM_breakEndsPage_73 (by decide) ?_
          exact pz_iret hx hb hr rfl hlocks hK hP hD hS (Nat.le_of_ble_eq_true rfl) (Nat.le_of_ble_eq_true rfl) (c_no (by rw [hpv]; exact (if_neg hq2).trans (if_neg (i32_nlt c_8))) hfo) d_PM_breakEndsPage_74
        · refine lv_aload_n hx hb d_PM_breakEndsPage_44 rfl (lv_at hl 1 rfl) ?_
          refine pz_get (ci := 4) (C := "PageMaker") (T := T_PM) (N := 4) hx hb htb in_PM hown hK hP hp hfp rfl 3 (by decide) (htb _ tw_163) (fun _ h9 => h9) rfl d_PM_breakEndsPage_45 ?_
          refine lv_iload_n hx hb d_PM_breakEndsPage_48 rfl (lv_at hl 2 rfl) ?_
          refine lv_aload_n hx hb d_PM_breakEndsPage_49 rfl (lv_at hl 1 rfl) ?_
          refine pz_get (ci := 4) (C := "PageMaker") (T := T_PM) (N := 4) hx hb htb in_PM hown hK hP hp hfp rfl 3 (by decide) (htb _ tw_163) (fun _ h9 => h9) rfl d_PM_breakEndsPage_50 ?_
          refine pz_get (ci := 2) (C := "PageMaker$OpenPage") (T := T_OP) (N := 8) hx hb htb in_OP hown hK hP ho hfo rfl 0 (by decide) (htb _ tw_124) (fun _ h9 => h9) rfl d_PM_breakEndsPage_53 ?_
          refine pz_get (ci := 3) (C := "PageMaker$Totals") (T := T_TO) (N := 4) hx hb htb in_TO hown hK hP ht hft rfl 1 (by decide) (htb _ tw_104) (fun _ h9 => h9) rfl d_PM_breakEndsPage_56 ?_
          refine lv_aload_n hx hb d_PM_breakEndsPage_59 rfl (lv_at hl 0 rfl) ?_
          refine pz_get (ci := 8) (C := "PageMaker$Penalty") (T := T_PE) (N := 1) hx hb htb in_PE hown hK hP hxL hfx rfl 0 (by decide) (htb _ tw_599) (fun _ h9 => h9) rfl d_PM_breakEndsPage_60 ?_
          refine pz_ci (va_runV (As := [.int (nI (j + 1)), .long T.1, .int ia]) (rest := []) ⟨hx, hb, hml, hown, hts⟩ (c_OP_endsAtBreak l G L f _ op to sa fo P T F (nI (j + 1)) ia T.1 ho hfo ht hft hs9 hsa hr8 hfof) (cwV 3 hts (tb_V tw_414 tw_415 tw_416 tw_6 tw_417) rfl rfl rfl (by decide +kernel) ⟨(Nat.le_of_ble_eq_true rfl), (Nat.le_of_ble_eq_true rfl)⟩) (pz_preV (zz_ok _ _ _) hK hP hD hS hA hz (ci := 2) rfl rfl ho hfo) rfl rfl hl.1 rfl (lv_room (Nat.le_of_ble_eq_true rfl)) d_PM_breakEndsPage_63 ⟨(Nat.le_of_ble_eq_true rfl), (Nat.le_of_ble_eq_true rfl)⟩) hP hD hS hA (fun r9 L9 f9 H locs hw hP hD hS => ?_)
          have hlk : c_look P T F (j + 1) (.inr (.inr (.inr ia))) (c_prev its (j + 1)) = o_at P T F (nI (j + 1)) T.1 ia := by rw [hpv]; exact (if_neg hq2).trans (if_pos (i32_lt c_8))
          obtain ⟨hb9, h1, h0⟩ := hw
          rcases hb9 with ⟨rfl, hb9⟩ | ⟨rfl, hb9⟩
          · have e9 := Prod.mk.inj (h1 rfl)
            have eL9 : L9 = L := e9.1
            have ef9 := e9.2
            subst L9
            refine lv_if_eq (tgt := 73) hx hb d_PM_breakEndsPage_66 (by decide) (fun c0 => absurd c0 (by decide)) (fun _ => ?_)
            refine lv_iconst (v := 1) hx hb d_PM_breakEndsPage_69 (by decide) ?_
            refine lv_goto (tgt := 74) hx hb d_PM_breakEndsPage_70 (by decide) ?_
            exact pz_iret hx hb hr rfl hlocks hK hP hD hS (Nat.le_of_ble_eq_true rfl) (Nat.le_of_ble_eq_true rfl) ⟨Or.inl rfl, ⟨fun _ => by rw [hlk, o_at, if_pos hb9], fun _ => rfl⟩, by rw [hlk, o_at, if_pos hb9]; exact congrArg (Prod.mk L) ef9⟩ d_PM_breakEndsPage_74
          · have e9 := Prod.mk.inj (h0 rfl)
            have eL9 : L9 = L := e9.1
            have ef9 := e9.2
            subst L9
            refine lv_if_eq (tgt := 73) hx hb d_PM_breakEndsPage_66 (by decide) (fun _ => ?_) (fun c0 => absurd c0 (by decide))
            refine lv_iconst (v := 0) hx hb d_PM_breakEndsPage_73 (by decide) ?_
            exact pz_iret hx hb hr rfl hlocks hK hP hD hS (Nat.le_of_ble_eq_true rfl) (Nat.le_of_ble_eq_true rfl) ⟨Or.inr rfl, ⟨fun h => absurd h (by decide), fun h => by rw [hlk, o_at, if_neg hb9] at h; exact absurd h Bool.false_ne_true⟩, by rw [hlk, o_at, if_neg hb9]; exact congrArg (Prod.mk L) ef9⟩ d_PM_breakEndsPage_74
    · refine lv_if_ne (tgt := 22) hx hb d_PM_breakEndsPage_17 (by decide) (fun c0 => absurd c0 (by decide)) (fun _ => ?_)
      refine lv_iconst (v := 0) hx hb d_PM_breakEndsPage_20 (by decide) ?_
      have hpv : c_prev its k = none := c_prev_none (by omega) (fun h => hq4 (by rw [hxl]; exact h))
      exact pz_iret hx hb hr rfl hlocks hK hP hD hS (Nat.le_of_ble_eq_true rfl) (Nat.le_of_ble_eq_true rfl) (c_no (by rw [hpv]; exact if_neg hq2) hfo) d_PM_breakEndsPage_21
  · refine lv_if_eq (tgt := 20) hx hb d_PM_breakEndsPage_7 (by decide) (fun _ => ?_) (fun c0 => absurd c0 (by decide))
    refine lv_iconst (v := 0) hx hb d_PM_breakEndsPage_20 (by decide) ?_
    exact pz_iret hx hb hr rfl hlocks hK hP hD hS (Nat.le_of_ble_eq_true rfl) (Nat.le_of_ble_eq_true rfl) (c_no (if_pos (Decidable.not_not.mp hq2)) hfo) d_PM_breakEndsPage_21
