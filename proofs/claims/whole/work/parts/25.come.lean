/-! PageMaker: comeIn, its constructor -/
theorem it_el {L : List Nat} {f : Nat → va_E} {x : Nat} {it : It} (h1 : x ∈ L) (h2 : f x = itE it) : elOK L f x := by
  refine ⟨h1, ?_⟩
  rcases it with ⟨ia, ib⟩ | ⟨ia, ib, io, id9⟩ | ia | ia <;> exact ⟨_, _, h2, by decide⟩
theorem xr_el {L : List Nat} {f : Nat → va_E} {xs : List Nat} {its : List It} (h : XR L f xs its) {i x : Nat} (hy : xs[i]? = some x) : elOK L f x := by
  have hi : i < xs.length := (List.getElem?_eq_some_iff.mp hy).1
  obtain ⟨h1, h2, -⟩ := h.2 i x _ hy (List.getElem?_eq_getElem (by rw [← h.1]; exact hi))
  exact it_el h1 h2
theorem xr_snoc {L : List Nat} {f : Nat → va_E} {xs : List Nat} {its : List It} {x : Nat} {it : It} (h : XR L f xs its) (hx : x ∈ L) (hfx : f x = itE it) (hok : itOK it) : XR L f (xs ++ [x]) (its ++ [it]) := by
  refine ⟨by rw [List.length_append, List.length_append, h.1]; rfl, fun i y pg h1 h2 => ?_⟩
  by_cases hi : i < xs.length
  · rw [List.getElem?_append_left hi] at h1
    rw [List.getElem?_append_left (by rw [← h.1]; exact hi)] at h2
    exact h.2 i y pg h1 h2
  · have hl : i < (xs ++ [x]).length := (List.getElem?_eq_some_iff.mp h1).1
    rw [List.length_append, List.length_singleton] at hl
    have e : i = xs.length := by omega
    subst e
    rw [List.getElem?_append_right (Nat.le_refl _), Nat.sub_self] at h1
    rw [List.getElem?_append_right (by rw [h.1]; exact Nat.le_refl _), h.1, Nat.sub_self] at h2
    cases h1
    cases h2
    exact ⟨hx, hfx, hok⟩
/-- an item is added to the list of all items -/
theorem rx_add {G : gG} {L L4 : List Nat} {f f4 : Nat → va_E} {pm al ad el ed fr op to sa fo d4 x : Nat} {xs ys : List Nat} {S : CS} {it : It} (h : RX G L f pm al ad el ed fr op to sa fo xs ys S) (hx : x ∈ L) (hfx : f x = itE it) (hok : itOK it) (h4 : LR G L4 f4 al d4 (xs ++ [x])) (hd4 : (xs ≠ [] ∧ d4 = ad ∧ ad ∈ L ∧ L4 = L ∧ ∃ (cap : Nat) (a : Nat → Option Nat), f ad = .inl (cO G, cap, .inr (.inr (.inr (.inr a))))) ∨ (d4 ∉ L ∧ L4 = L ++ [d4])) (hk4 : ∀ z, z ≠ al → z ≠ d4 → f4 z = f z) : RX G L4 f4 pm al d4 el ed fr op to sa fo (xs ++ [x]) ys (S.1 ++ [it], S.2.1, S.2.2.1, S.2.2.2.1, S.2.2.2.2.1, S.2.2.2.2.2) := by
  obtain ⟨a1, a2, a3, a4, a5, a6, a7, a8, a9, b1, b2, b3, b4, b5, b6, b7, b8, b9⟩ := h
  have hsub := rz_sub hd4
  have kp : ∀ z, z ∈ L → tg (f z) ≠ 0 → tg (f z) ≠ 104 → f4 z = f z := fun z hz z1 z2 => hk4 z (tg_ne rfl (lr_tg a3).2 z1) (rz_nd hd4 hz z2)
  have kp2 : ∀ z j, z ∈ L → tg (f z) = j → j ≠ 0 → j ≠ 104 → f4 z = f z := fun z j hz e q1 q2 => kp z hz (by rw [e]; exact q1) (by rw [e]; exact q2)
  refine ⟨hsub _ a1, (kp2 pm 4 a1 (by rw [a2]; rfl) (by decide) (by decide)).trans a2, h4, rz_al (fun h1 h2 => Ne.symm (a6 h2 h1)) a4 a3 a3 (Ne.symm a5) hd4 (fun _ h => h) hsub (fun _ _ => rfl) hk4 (fun _ _ _ => rfl), a5, fun h1 h2 => Ne.symm (rz_dd (q := 0) (fun h1 h2 => Ne.symm (a6 h2 h1)) a4 hd4 (fun _ h => h) h2 (List.append_ne_nil_of_right_ne_nil _ (List.cons_ne_nil _ _))), ?_, yr_keep a8 hsub (fun z hz q => kp z hz (by omega) (by omega)), hsub _ a9, (kp2 fr 1 a9 (by rw [b1]; rfl) (by decide) (by decide)).trans b1, hsub _ b2, (kp2 op 2 b2 (by rw [b3]; rfl) (by decide) (by decide)).trans b3, hsub _ b4, (kp2 to 3 b4 (by rw [b5]; rfl) (by decide) (by decide)).trans b5, hsub _ b6, (kp2 sa 101 b6 (by rw [b7]; rfl) (by decide) (by decide)).trans b7, hsub _ b8, (kp2 fo 1 b8 (by rw [b9]; rfl) (by decide) (by decide)).trans b9⟩
  have t := tg_it it
  rw [← hfx] at t
  exact xr_snoc (xr_keep a7 hsub (fun z hz q1 q2 => kp z hz (by omega) (by omega))) (hsub _ hx) ((kp x hx (by omega) (by omega)).trans hfx) hok
theorem k_c1 (a b : Nat) : 0 + a ≤ a + b := by omega
theorem k_c3 (a b : Nat) : 0 + a + b ≤ a + b := by omega
theorem k_c4 (a b : Nat) : 0 + a + b + 0 ≤ a + b := by omega
theorem k_c2 (a b : Nat) : 0 + a + 0 ≤ a + b := by omega
/-- a new PageMaker -/
def c_0 : CS := ([], (42152922, 655360, 262144), [], (42152922, 655360, 262144), op_0, t_0)
set_option maxHeartbeats 4000000 in
set_option maxRecDepth 100000 in
/-- comeIn(x) -/
theorem c_PM_comeIn (l : Launch) (G : gG) (L : List Nat) (f : Nat → va_E) (sz : Nat) (pm al ad el ed fr op to sa fo : Nat) (xs ys : List Nat) (its : List It) (F9 : Fr) (pgs : List (Fr × Pg)) (F : Fr) (P : Op) (T : Tt) (x : Nat) (it : It) (hR : RX G L f pm al ad el ed fr op to sa fo xs ys (its, F9, pgs, F, P, T)) (hxL : x ∈ L) (hfx : f x = itE it) (hok : itOK it) (hn5 : its.length < 512) (hpg : pgs.length ≤ 512) (hok9 : c_ok 4004001 (its ++ [it], F9, pgs, F, P, T) its.length) : mI l y_PM_comeIn w_PM_comeIn ({ frames := 9, cells := 1 + 7 * ((c_run 4004001 (its ++ [it], F9, pgs, F, P, T) its.length).1.2.2.1.length - pgs.length), slots := 900 + 933 * ((c_run 4004001 (its ++ [it], F9, pgs, F, P, T) its.length).1.2.2.1.length - pgs.length), locals := 216 }) G L f sz [.ref pm, .ref x] (1 + 7 * ((c_run 4004001 (its ++ [it], F9, pgs, F, P, T) its.length).1.2.2.1.length - pgs.length)) (900 + 933 * ((c_run 4004001 (its ++ [it], F9, pgs, F, P, T) its.length).1.2.2.1.length - pgs.length)) (fun r u => r = nI (c_run 4004001 (its ++ [it], F9, pgs, F, P, T) its.length).1.2.2.1.length ∧ ∃ ad1 ed1 op1 to1 sa1 fo1 ys1, RX G u.1 u.2 pm al ad1 el ed1 fr op1 to1 sa1 fo1 (xs ++ [x]) ys1 (c_run 4004001 (its ++ [it], F9, pgs, F, P, T) its.length).1) := by
  refine pz_met (cc := prog_1_method_18_code) (maxL := 2) (ret := (some .int)) (by decide) rfl (Nat.le_of_ble_eq_true rfl) ?_
  intro p e s m below meth c ls hx hb hr hml hts hown hlocks hin hsz hK hP hD hS hA hz hl
  have htb : ∀ w ∈ TB, w.before _ s = true := fun w h => hts w (List.mem_cons_of_mem _ h)
  have hl : lv_has ls 2 [(0, .ref pm), (1, .ref x)] := hl
  obtain ⟨hp, hfp, h_al, h_el, hne9, hdd, hX, hY, hr9, hfr, ho, hfo, ht, hft, hs9, hsa, hr8, hfof⟩ := id hR
  have hX : XR L f xs its := hX
  have hY : YR L f ys pgs := hY
  have hfr : f fr = frE F9 := hfr
  have hfo : f op = opE to fo P := hfo
  have hft : f to = toE sa T := hft
  have hsa : f sa = saE G T := hsa
  have hfof : f fo = frE F := hfof
  obtain ⟨mo_al, hm_al, hc_al, -⟩ := id h_al
  obtain ⟨mo_el, hm_el, hc_el, -⟩ := id h_el
  have hxl : xs.length = its.length := hX.1
  refine lv_aload_n hx hb d_PM_comeIn_0 rfl (lv_at hl 0 rfl) ?_
  refine pz_get (ci := 4) (C := "PageMaker") (T := T_PM) (N := 4) hx hb htb in_PM hown hK hP hp hfp rfl 0 (by decide) (htb _ tw_160) (fun _ h9 => h9) rfl d_PM_comeIn_1 ?_
  refine lv_aload_n hx hb d_PM_comeIn_4 rfl (lv_at hl 1 rfl) ?_
  refine pz_ci (va_runV (As := [.ref x]) (rest := []) ⟨hx, hb, hml, hown, hts⟩ (al_add l G L f _ al ad xs x h_al (by omega) (fun i y hy => xr_el hX hy) (it_el hxL hfx)) (cwV 1 hts (tb_V tw_320 tw_321 tw_322 tw_4 tw_323) rfl rfl rfl (by decide +kernel) ⟨(Nat.le_of_ble_eq_true rfl), (Nat.le_of_ble_eq_true rfl)⟩) (pz_preV (zz_ok _ _ _) hK hP hD hS hA hz (ci := 0) rfl rfl hm_al hc_al) rfl rfl hl.1 rfl (lv_room (Nat.le_of_ble_eq_true rfl)) d_PM_comeIn_5 ⟨(k_c1 _ _), (k_c1 _ _)⟩) hP hD hS hA (fun r4 L4 f4 H locs hw hP hD hS => ?_)
  obtain ⟨-, d4, h_al4, hd4, hk4⟩ := hw
  have hR4 : RX G L4 f4 pm al d4 el ed fr op to sa fo (xs ++ [x]) ys (its ++ [it], F9, pgs, F, P, T) := rx_add hR hxL hfx hok h_al4 hd4 hk4
  obtain ⟨hp4, hfp4, h_al5, -⟩ := id hR4
  obtain ⟨mo_4, hm_4, hc_4, -⟩ := id h_al5
  refine lv_pop hx hb d_PM_comeIn_8 rfl ?_
  refine lv_aload_n hx hb d_PM_comeIn_9 rfl (lv_at hl 0 rfl) ?_
  refine lv_aload_n hx hb d_PM_comeIn_10 rfl (lv_at hl 0 rfl) ?_
  refine pz_get (ci := 4) (C := "PageMaker") (T := T_PM) (N := 4) hx hb htb in_PM hown hK hP hp4 hfp4 rfl 0 (by decide) (htb _ tw_160) (fun _ h9 => h9) rfl d_PM_comeIn_11 ?_
  refine vp_callSi (va_Run.run (va_runV (As := []) (rest := [.ref pm]) ⟨hx, hb, hml, hown, hts⟩ (al_size l G L4 f4 _ al d4 (xs ++ [x]) h_al5) (cwV 0 hts (tb_V tw_177 tw_178 tw_179 tw_4 tw_180) rfl rfl rfl (by decide +kernel) ⟨(Nat.le_of_ble_eq_true rfl), (Nat.le_of_ble_eq_true rfl)⟩) (pz_preV (zz_ok _ _ _) hK hP hD hS hA hz (ci := 0) rfl rfl hm_4 hc_4) rfl rfl hl.1 rfl (lv_room (Nat.le_of_ble_eq_true rfl)) d_PM_comeIn_14 ⟨(k_c2 1 _), (k_c2 900 _)⟩)) (fun r1 hw => ?_)
  have hw : r1 = nI (xs ++ [x]).length := hw
  subst r1
  refine lv_iconst (v := 1) hx hb d_PM_comeIn_17 (by decide) ?_
  refine lv_isub hx hb d_PM_comeIn_18 ?_
  refine lv_topi (fun x2 ex2 => ?_)
  have ex2 : x2 = nI its.length := ex2.trans (by rw [List.length_append, List.length_singleton, hxl]; exact nI_pred _)
  subst ex2
  refine pz_cv (va_runV (As := [.int (nI its.length)]) (rest := []) ⟨hx, hb, hml, hown, hts⟩ (c_PM_lookFrom l G L4 f4 _ pm al d4 el ed fr op to sa fo (xs ++ [x]) ys (its ++ [it]) F9 pgs F P T its.length hR4 (by rw [List.length_append]; omega) (by rw [List.length_append, List.length_singleton]; omega) hpg hok9) (cwV 1 hts (tb_V tw_381 tw_383 tp_6 tw_1 tw_384) rfl rfl rfl (by decide +kernel) ⟨(Nat.le_of_ble_eq_true rfl), (Nat.le_of_ble_eq_true rfl)⟩) (pz_preV (zz_ok _ _ _) hK hP hD hS hA hz (ci := 4) rfl rfl hp4 hfp4) rfl rfl hl.1 rfl (lv_room (Nat.le_of_ble_eq_true rfl)) d_PM_comeIn_19 ⟨(k_c3 1 _), (k_c3 900 _)⟩) hP hD hS hA (fun L5 f5 H locs hw hP hD hS => ?_)
  obtain ⟨ed1, op1, to1, sa1, fo1, ys1, hR5⟩ := hw
  obtain ⟨hp5, hfp5, -, h_el5, -, -, -, hY5, -⟩ := id hR5
  obtain ⟨mo_5, hm_5, hc_5, -⟩ := id h_el5
  have hyl : ys1.length = (c_run 4004001 (its ++ [it], F9, pgs, F, P, T) its.length).1.2.2.1.length := hY5.1
  refine lv_aload_n hx hb d_PM_comeIn_22 rfl (lv_at hl 0 rfl) ?_
  refine pz_get (ci := 4) (C := "PageMaker") (T := T_PM) (N := 4) hx hb htb in_PM hown hK hP hp5 hfp5 rfl 1 (by decide) (htb _ tw_161) (fun _ h9 => h9) rfl d_PM_comeIn_23 ?_
  refine vp_callSi (va_Run.run (va_runV (As := []) (rest := []) ⟨hx, hb, hml, hown, hts⟩ (al_size l G L5 f5 _ el ed1 ys1 h_el5) (cwV 0 hts (tb_V tw_177 tw_178 tw_179 tw_4 tw_180) rfl rfl rfl (by decide +kernel) ⟨(Nat.le_of_ble_eq_true rfl), (Nat.le_of_ble_eq_true rfl)⟩) (pz_preV (zz_ok _ _ _) hK hP hD hS hA hz (ci := 0) rfl rfl hm_5 hc_5) rfl rfl hl.1 rfl (lv_room (Nat.le_of_ble_eq_true rfl)) d_PM_comeIn_26 ⟨(k_c4 1 _), (k_c4 900 _)⟩)) (fun r3 hw => ?_)
  have hw : r3 = nI ys1.length := hw
  subst r3
  exact pz_iret hx hb hr rfl hlocks hK hP hD hS (k_c3 1 _) (k_c3 900 _) ⟨by rw [← hyl], d4, ed1, op1, to1, sa1, fo1, ys1, hR5⟩ d_PM_comeIn_29
set_option maxHeartbeats 4000000 in
set_option maxRecDepth 100000 in
/-- PageMaker() -/
theorem c_PM_init (l : Launch) (G : gG) (L : List Nat) (f : Nat → va_E) (sz : Nat) (pm : Nat) (hp : pm ∈ L) (hfp : f pm = .inr (4, [.null, .null, .null, .null])) : mV l y_PM_init w_PM_init ({ frames := 4, cells := 6, slots := 25, locals := 80 }) G L f sz [.ref pm] 6 25 (fun u => ∃ al el fr op to sa, RX G u.1 u.2 pm al G.2.2.1 el G.2.2.1 fr op to sa fr [] [] c_0) := by
  refine pz_met (cc := prog_1_method_1_code) (maxL := 1) (ret := none) (by decide) rfl (Nat.le_of_ble_eq_true rfl) ?_
  intro p e s m below meth c ls hx hb hr hml hts hown hlocks hin hsz hK hP hD hS hA hz hl
  have htb : ∀ w ∈ TB, w.before _ s = true := fun w h => hts w (List.mem_cons_of_mem _ h)
  have hl : lv_has ls 1 [(0, .ref pm)] := hl
  refine lv_aload_n hx hb d_PM_init_0 rfl (lv_at hl 0 rfl) ?_
  refine W.objInit hx hb hown (htb _ tw_32) (htb _ tw_33) (htb _ tw_34) rfl (by rw [hml]; exact hl.1) rfl d_PM_init_1 (Nat.le_of_ble_eq_true rfl) (Nat.le_of_ble_eq_true rfl) ?_
  refine W.eq (g2 := F0 m 4 ls []) rfl ?_
  refine lv_aload_n hx hb d_PM_init_4 rfl (lv_at hl 0 rfl) ?_
  refine pz_new (ci := 0) (fs := [.int 0, .null, .int 0]) (C := "java/util/ArrayList") (T := T_AL) (N := 3) hx hb htb in_AL ty_AL to_AL hown (htb _ tw_35) (htb _ tw_36) (htb _ tw_4) hK hP hD hS hA rfl (fun j hj => by rcases (show j = 0 ∨ j = 1 ∨ j = 2 by omega) with rfl | rfl | rfl <;> rfl) (Nat.le_of_ble_eq_true rfl) (Nat.le_of_ble_eq_true rfl) d_PM_init_5 (fun q1 L2 f3 H hnq1 eL2 ef3 hP hD hS => ?_)
  subst L2
  refine lv_dup hx hb d_PM_init_8 rfl ?_
  have h_4 : f3 q1 = .inr (0, [.int 0, .null, .int 0]) := by rw [ef3]; exact va_up_self _ _ _
  refine pz_cv (va_runI (As := []) (rest := [.ref q1, .ref pm]) ⟨hx, hb, hml, hown, hts⟩ (c_AL_init l G (L ++ [q1]) f3 _ q1 0 0 (l_in_new _ _) h_4) (cwI 0 hts (tb_good tw_39) rfl rfl rfl (htb _ tw_4) (htb _ tw_37) (htb _ tw_38) rfl (by decide +kernel) ⟨(Nat.le_of_ble_eq_true rfl), (Nat.le_of_ble_eq_true rfl)⟩) (pz_pre (zz_ok _ _ _) hK hP hD hS hA hz) rfl rfl hl.1 rfl (lv_room (Nat.le_of_ble_eq_true rfl)) d_PM_init_9 ⟨(Nat.le_of_ble_eq_true rfl), (Nat.le_of_ble_eq_true rfl)⟩) hP hD hS hA (fun L6 f5 H locs hw hP hD hS => ?_)
  have ef5 : f5 = va_up (f3) q1 (.inr (0, [.int 0, .ref G.2.2.1, .int 0])) := (Prod.mk.inj hw).2
  have eL6 : L6 = (L ++ [q1]) := (Prod.mk.inj hw).1
  subst L6
  have h_8 : f3 pm = .inr (4, [.null, .null, .null, .null]) := by rw [ef3, va_up_ne _ _ (Ne.symm (pz_nef hnq1 hp))]; exact hfp
  have h_7 : f5 pm = .inr (4, [.null, .null, .null, .null]) := by rw [ef5, va_up_ne _ _ (Ne.symm (pz_nef hnq1 hp))]; exact h_8
  refine pz_putF (ci := 4) (v := .ref q1) (ty := .object "java/util/ArrayList") (C := "PageMaker") (T := T_PM) (N := 4) hx hb htb in_PM ty_PM to_PM nm_PM hown hK hP hD hS (List.mem_append_left _ hp) h_7 rfl 0 (by decide) (htb _ tw_160) (fun _ h9 => h9) rfl hin rfl rfl rfl rfl (Nat.le_of_ble_eq_true rfl) d_PM_init_12 (fun f9 H locs ef9 hP hD hS => ?_)
  have ef9 : f9 = va_up f5 pm (.inr (4, [.ref q1, .null, .null, .null])) := ef9
  refine lv_aload_n hx hb d_PM_init_15 rfl (lv_at hl 0 rfl) ?_
  refine pz_new (ci := 0) (fs := [.int 0, .null, .int 0]) (C := "java/util/ArrayList") (T := T_AL) (N := 3) hx hb htb in_AL ty_AL to_AL hown (htb _ tw_35) (htb _ tw_36) (htb _ tw_4) hK hP hD hS hA rfl (fun j hj => by rcases (show j = 0 ∨ j = 1 ∨ j = 2 by omega) with rfl | rfl | rfl <;> rfl) (Nat.le_of_ble_eq_true rfl) (Nat.le_of_ble_eq_true rfl) d_PM_init_16 (fun q10 L11 f12 H hnq10 eL11 ef12 hP hD hS => ?_)
  subst L11
  refine lv_dup hx hb d_PM_init_19 rfl ?_
  have h_13 : f12 q10 = .inr (0, [.int 0, .null, .int 0]) := by rw [ef12]; exact va_up_self _ _ _
  refine pz_cv (va_runI (As := []) (rest := [.ref q10, .ref pm]) ⟨hx, hb, hml, hown, hts⟩ (c_AL_init l G ((L ++ [q1]) ++ [q10]) f12 _ q10 0 0 (l_in_new _ _) h_13) (cwI 0 hts (tb_good tw_39) rfl rfl rfl (htb _ tw_4) (htb _ tw_37) (htb _ tw_38) rfl (by decide +kernel) ⟨(Nat.le_of_ble_eq_true rfl), (Nat.le_of_ble_eq_true rfl)⟩) (pz_pre (zz_ok _ _ _) hK hP hD hS hA hz) rfl rfl hl.1 rfl (lv_room (Nat.le_of_ble_eq_true rfl)) d_PM_init_20 ⟨(Nat.le_of_ble_eq_true rfl), (Nat.le_of_ble_eq_true rfl)⟩) hP hD hS hA (fun L15 f14 H locs hw hP hD hS => ?_)
  have ef14 : f14 = va_up (f12) q10 (.inr (0, [.int 0, .ref G.2.2.1, .int 0])) := (Prod.mk.inj hw).2
  have eL15 : L15 = ((L ++ [q1]) ++ [q10]) := (Prod.mk.inj hw).1
  subst L15
  have h_18 : f9 pm = .inr (4, [.ref q1, .null, .null, .null]) := by rw [ef9]; exact va_up_self _ _ _
  have h_17 : f12 pm = .inr (4, [.ref q1, .null, .null, .null]) := by rw [ef12, va_up_ne _ _ (Ne.symm (pz_nef hnq10 (List.mem_append_left _ hp)))]; exact h_18
  have h_16 : f14 pm = .inr (4, [.ref q1, .null, .null, .null]) := by rw [ef14, va_up_ne _ _ (Ne.symm (pz_nef hnq10 (List.mem_append_left _ hp)))]; exact h_17
  refine pz_putF (ci := 4) (v := .ref q10) (ty := .object "java/util/ArrayList") (C := "PageMaker") (T := T_PM) (N := 4) hx hb htb in_PM ty_PM to_PM nm_PM hown hK hP hD hS (List.mem_append_left _ (List.mem_append_left _ hp)) h_16 rfl 1 (by decide) (htb _ tw_161) (fun _ h9 => h9) rfl hin rfl rfl rfl rfl (Nat.le_of_ble_eq_true rfl) d_PM_init_23 (fun f19 H locs ef19 hP hD hS => ?_)
  have ef19 : f19 = va_up f14 pm (.inr (4, [.ref q1, .ref q10, .null, .null])) := ef19
  refine lv_aload_n hx hb d_PM_init_26 rfl (lv_at hl 0 rfl) ?_
  refine pz_new (ci := 1) (fs := [.int 0, .int 0, .int 0]) (C := "PageMaker$Frame") (T := T_FR) (N := 3) hx hb htb in_FR ty_FR to_FR hown (htb _ tw_61) (htb _ tw_62) (htb _ tw_5) hK hP hD hS hA rfl (fun j hj => by rcases (show j = 0 ∨ j = 1 ∨ j = 2 by omega) with rfl | rfl | rfl <;> rfl) (Nat.le_of_ble_eq_true rfl) (Nat.le_of_ble_eq_true rfl) d_PM_init_27 (fun q20 L21 f22 H hnq20 eL21 ef22 hP hD hS => ?_)
  subst L21
  refine lv_dup hx hb d_PM_init_30 rfl ?_
  refine lv_ldc (v := 42152922) hx hb hown (htb _ tw_63) d_PM_init_31 ?_
  refine lv_ldc (v := 655360) hx hb hown (htb _ tw_64) d_PM_init_33 ?_
  refine lv_ldc (v := 262144) hx hb hown (htb _ tw_65) d_PM_init_35 ?_
  have h_23 : f22 q20 = .inr (1, [.int 0, .int 0, .int 0]) := by rw [ef22]; exact va_up_self _ _ _
  refine pz_cv (va_runI (As := [.int 42152922, .int 655360, .int 262144]) (rest := [.ref q20, .ref pm]) ⟨hx, hb, hml, hown, hts⟩ (c_FR_init l G (((L ++ [q1]) ++ [q10]) ++ [q20]) f22 _ q20 42152922 655360 262144 0 0 0 (l_in_new _ _) h_23) (cwI 3 hts (tb_good tw_68) rfl rfl rfl (htb _ tw_5) (htb _ tw_66) (htb _ tw_67) rfl (by decide +kernel) ⟨(Nat.le_of_ble_eq_true rfl), (Nat.le_of_ble_eq_true rfl)⟩) (pz_pre (zz_ok _ _ _) hK hP hD hS hA hz) rfl rfl hl.1 rfl (lv_room (Nat.le_of_ble_eq_true rfl)) d_PM_init_37 ⟨(Nat.le_of_ble_eq_true rfl), (Nat.le_of_ble_eq_true rfl)⟩) hP hD hS hA (fun L25 f24 H locs hw hP hD hS => ?_)
  have ef24 : f24 = va_up (f22) q20 (.inr (1, [.int (42152922), .int (655360), .int (262144)])) := (Prod.mk.inj hw).2
  have eL25 : L25 = (((L ++ [q1]) ++ [q10]) ++ [q20]) := (Prod.mk.inj hw).1
  subst L25
  have h_28 : f19 pm = .inr (4, [.ref q1, .ref q10, .null, .null]) := by rw [ef19]; exact va_up_self _ _ _
  have h_27 : f22 pm = .inr (4, [.ref q1, .ref q10, .null, .null]) := by rw [ef22, va_up_ne _ _ (Ne.symm (pz_nef hnq20 (List.mem_append_left _ (List.mem_append_left _ hp))))]; exact h_28
  have h_26 : f24 pm = .inr (4, [.ref q1, .ref q10, .null, .null]) := by rw [ef24, va_up_ne _ _ (Ne.symm (pz_nef hnq20 (List.mem_append_left _ (List.mem_append_left _ hp))))]; exact h_27
  refine pz_put (ci := 4) (v := .ref q20) (ty := .object "PageMaker$Frame") (C := "PageMaker") (T := T_PM) (N := 4) hx hb htb in_PM ty_PM to_PM nm_PM hown hK hP hD hS (List.mem_append_left _ (List.mem_append_left _ (List.mem_append_left _ hp))) h_26 rfl 2 (by decide) (htb _ tw_162) (fun _ h9 => h9) rfl rfl rfl rfl (Nat.le_of_ble_eq_true rfl) d_PM_init_40 (fun f29 H locs ef29 hP hD hS => ?_)
  have ef29 : f29 = va_up f24 pm (.inr (4, [.ref q1, .ref q10, .ref q20, .null])) := ef29
  refine lv_aload_n hx hb d_PM_init_43 rfl (lv_at hl 0 rfl) ?_
  refine pz_new (ci := 2) (fs := [.null, .null, .int 0, .long 0, .int 0, .int 0, .int 0, .int 0]) (C := "PageMaker$OpenPage") (T := T_OP) (N := 8) hx hb htb in_OP ty_OP to_OP hown (htb _ tw_84) (htb _ tw_85) (htb _ tw_6) hK hP hD hS hA rfl (fun j hj => by rcases (show j = 0 ∨ j = 1 ∨ j = 2 ∨ j = 3 ∨ j = 4 ∨ j = 5 ∨ j = 6 ∨ j = 7 by omega) with rfl | rfl | rfl | rfl | rfl | rfl | rfl | rfl <;> rfl) (Nat.le_of_ble_eq_true rfl) (Nat.le_of_ble_eq_true rfl) d_PM_init_44 (fun q30 L31 f32 H hnq30 eL31 ef32 hP hD hS => ?_)
  subst L31
  refine lv_dup hx hb d_PM_init_47 rfl ?_
  refine lv_aload_n hx hb d_PM_init_48 rfl (lv_at hl 0 rfl) ?_
  have h_34 : f29 pm = .inr (4, [.ref q1, .ref q10, .ref q20, .null]) := by rw [ef29]; exact va_up_self _ _ _
  have h_33 : f32 pm = .inr (4, [.ref q1, .ref q10, .ref q20, .null]) := by rw [ef32, va_up_ne _ _ (Ne.symm (pz_nef hnq30 (List.mem_append_left _ (List.mem_append_left _ (List.mem_append_left _ hp)))))]; exact h_34
  refine pz_get (ci := 4) (C := "PageMaker") (T := T_PM) (N := 4) hx hb htb in_PM hown hK hP (List.mem_append_left _ (List.mem_append_left _ (List.mem_append_left _ (List.mem_append_left _ hp)))) h_33 rfl 2 (by decide) (htb _ tw_162) (fun _ h9 => h9) rfl d_PM_init_49 ?_
  have h_35 : f32 q30 = .inr (2, [.null, .null, .int 0, .long 0, .int 0, .int 0, .int 0, .int 0]) := by rw [ef32]; exact va_up_self _ _ _
  have h_44 : f5 q1 = .inr (0, [.int 0, .ref G.2.2.1, .int 0]) := by rw [ef5]; exact va_up_self _ _ _
  have h_43 : f9 q1 = .inr (0, [.int 0, .ref G.2.2.1, .int 0]) := by rw [ef9, va_up_ne _ _ (pz_nef hnq1 hp)]; exact h_44
  have h_42 : f12 q1 = .inr (0, [.int 0, .ref G.2.2.1, .int 0]) := by rw [ef12, va_up_ne _ _ (Ne.symm (pz_nef hnq10 (l_in_new _ _)))]; exact h_43
  have h_41 : f14 q1 = .inr (0, [.int 0, .ref G.2.2.1, .int 0]) := by rw [ef14, va_up_ne _ _ (Ne.symm (pz_nef hnq10 (l_in_new _ _)))]; exact h_42
  have h_40 : f19 q1 = .inr (0, [.int 0, .ref G.2.2.1, .int 0]) := by rw [ef19, va_up_ne _ _ (pz_nef hnq1 hp)]; exact h_41
  have h_39 : f22 q1 = .inr (0, [.int 0, .ref G.2.2.1, .int 0]) := by rw [ef22, va_up_ne _ _ (Ne.symm (pz_nef hnq20 (List.mem_append_left _ (l_in_new _ _))))]; exact h_40
  have h_38 : f24 q1 = .inr (0, [.int 0, .ref G.2.2.1, .int 0]) := by rw [ef24, va_up_ne _ _ (Ne.symm (pz_nef hnq20 (List.mem_append_left _ (l_in_new _ _))))]; exact h_39
  have h_37 : f29 q1 = .inr (0, [.int 0, .ref G.2.2.1, .int 0]) := by rw [ef29, va_up_ne _ _ (pz_nef hnq1 hp)]; exact h_38
  have h_36 : f32 q1 = .inr (0, [.int 0, .ref G.2.2.1, .int 0]) := by rw [ef32, va_up_ne _ _ (Ne.symm (pz_nef hnq30 (List.mem_append_left _ (List.mem_append_left _ (l_in_new _ _)))))]; exact h_37
  have h_50 : f14 q10 = .inr (0, [.int 0, .ref G.2.2.1, .int 0]) := by rw [ef14]; exact va_up_self _ _ _
  have h_49 : f19 q10 = .inr (0, [.int 0, .ref G.2.2.1, .int 0]) := by rw [ef19, va_up_ne _ _ (pz_nef hnq10 (List.mem_append_left _ hp))]; exact h_50
  have h_48 : f22 q10 = .inr (0, [.int 0, .ref G.2.2.1, .int 0]) := by rw [ef22, va_up_ne _ _ (Ne.symm (pz_nef hnq20 (l_in_new _ _)))]; exact h_49
  have h_47 : f24 q10 = .inr (0, [.int 0, .ref G.2.2.1, .int 0]) := by rw [ef24, va_up_ne _ _ (Ne.symm (pz_nef hnq20 (l_in_new _ _)))]; exact h_48
  have h_46 : f29 q10 = .inr (0, [.int 0, .ref G.2.2.1, .int 0]) := by rw [ef29, va_up_ne _ _ (pz_nef hnq10 (List.mem_append_left _ hp))]; exact h_47
  have h_45 : f32 q10 = .inr (0, [.int 0, .ref G.2.2.1, .int 0]) := by rw [ef32, va_up_ne _ _ (Ne.symm (pz_nef hnq30 (List.mem_append_left _ (l_in_new _ _))))]; exact h_46
  have h_53 : f24 q20 = .inr (1, [.int 42152922, .int 655360, .int 262144]) := by rw [ef24]; exact va_up_self _ _ _
  have h_52 : f29 q20 = .inr (1, [.int 42152922, .int 655360, .int 262144]) := by rw [ef29, va_up_ne _ _ (pz_nef hnq20 (List.mem_append_left _ (List.mem_append_left _ hp)))]; exact h_53
  have h_51 : f32 q20 = .inr (1, [.int 42152922, .int 655360, .int 262144]) := by rw [ef32, va_up_ne _ _ (Ne.symm (pz_nef hnq30 (l_in_new _ _)))]; exact h_52
  refine pz_cv (va_runI (As := [.ref q20]) (rest := [.ref q30, .ref pm]) ⟨hx, hb, hml, hown, hts⟩ (c_OP_init l G ((((L ++ [q1]) ++ [q10]) ++ [q20]) ++ [q30]) f32 _ q30 q20 0 0 0 0 0 0 (l_in_new _ _) h_35 (List.mem_append_left _ (l_in_new _ _))) (cwI 1 hts (tb_good tw_88) rfl rfl rfl (htb _ tw_6) (htb _ tw_86) (htb _ tw_87) rfl (by decide +kernel) ⟨(Nat.le_of_ble_eq_true rfl), (Nat.le_of_ble_eq_true rfl)⟩) (pz_pre (zz_ok _ _ _) hK hP hD hS hA hz) rfl rfl hl.1 rfl (lv_room (Nat.le_of_ble_eq_true rfl)) d_PM_init_52 ⟨(Nat.le_of_ble_eq_true rfl), (Nat.le_of_ble_eq_true rfl)⟩) hP hD hS hA (fun L6 f6 H locs hw hP hD hS => ?_)
  obtain ⟨to6, sa6, hnt6, hns6, hts6, hw⟩ := hw
  have eL6 : L6 = ((((L ++ [q1]) ++ [q10]) ++ [q20]) ++ [q30]) ++ [to6] ++ [sa6] := (Prod.mk.inj hw).1
  have ef6 : f6 = va_up (va_up (va_up f32 sa6 (saE G t_0)) to6 (toE sa6 t_0)) q30 (opE to6 q20 op_0) := (Prod.mk.inj hw).2
  subst L6
  have hsub6 : ∀ z, z ∈ ((((L ++ [q1]) ++ [q10]) ++ [q20]) ++ [q30]) → z ∈ (((((L ++ [q1]) ++ [q10]) ++ [q20]) ++ [q30]) ++ [to6] ++ [sa6]) := fun z hz => List.mem_append_left _ (List.mem_append_left _ hz)
  have hold6 : ∀ z, z ∈ ((((L ++ [q1]) ++ [q10]) ++ [q20]) ++ [q30]) → z ≠ q30 → f6 z = f32 z := fun z hz z1 => by rw [ef6, va_up_ne _ _ z1, va_up_ne _ _ (Ne.symm (pz_nef hnt6 hz)), va_up_ne _ _ (Ne.symm (pz_nef hns6 hz))]
  have hfo6 : f6 q30 = opE to6 q20 op_0 := by rw [ef6]; exact va_up_self _ _ _
  have hto6 : f6 to6 = toE sa6 t_0 := by rw [ef6, va_up_ne _ _ (pz_nef hnt6 (l_in_new _ _))]; exact va_up_self _ _ _
  have hsa6 : f6 sa6 = saE G t_0 := by rw [ef6, va_up_ne _ _ (pz_nef hns6 (l_in_new _ _)), va_up_ne _ _ (Ne.symm hts6)]; exact va_up_self _ _ _
  have g_54 : f6 pm = .inr (4, [.ref q1, .ref q10, .ref q20, .null]) := (hold6 _ (List.mem_append_left _ (List.mem_append_left _ (List.mem_append_left _ (List.mem_append_left _ hp)))) (Ne.symm (pz_nef hnq30 (List.mem_append_left _ (List.mem_append_left _ (List.mem_append_left _ hp)))))).trans h_33
  have g_55 : f6 q1 = .inr (0, [.int 0, .ref G.2.2.1, .int 0]) := (hold6 _ (List.mem_append_left _ (List.mem_append_left _ (List.mem_append_left _ (l_in_new _ _)))) (Ne.symm (pz_nef hnq30 (List.mem_append_left _ (List.mem_append_left _ (l_in_new _ _)))))).trans h_36
  have g_56 : f6 q10 = .inr (0, [.int 0, .ref G.2.2.1, .int 0]) := (hold6 _ (List.mem_append_left _ (List.mem_append_left _ (l_in_new _ _))) (Ne.symm (pz_nef hnq30 (List.mem_append_left _ (l_in_new _ _))))).trans h_45
  have g_57 : f6 q20 = .inr (1, [.int 42152922, .int 655360, .int 262144]) := (hold6 _ (List.mem_append_left _ (l_in_new _ _)) (Ne.symm (pz_nef hnq30 (l_in_new _ _)))).trans h_51
  refine pz_put (ci := 4) (v := .ref q30) (ty := .object "PageMaker$OpenPage") (C := "PageMaker") (T := T_PM) (N := 4) hx hb htb in_PM ty_PM to_PM nm_PM hown hK hP hD hS (hsub6 _ (List.mem_append_left _ (List.mem_append_left _ (List.mem_append_left _ (List.mem_append_left _ hp))))) g_54 rfl 3 (by decide) (htb _ tw_163) (fun _ h9 => h9) rfl rfl rfl rfl (Nat.le_of_ble_eq_true rfl) d_PM_init_55 (fun f58 H locs ef58 hP hD hS => ?_)
  have ef58 : f58 = va_up f6 pm (.inr (4, [.ref q1, .ref q10, .ref q20, .ref q30])) := ef58
  have h_59 : f58 pm = .inr (4, [.ref q1, .ref q10, .ref q20, .ref q30]) := by rw [ef58]; exact va_up_self _ _ _
  have h_60 : f58 q1 = .inr (0, [.int 0, .ref G.2.2.1, .int 0]) := by rw [ef58, va_up_ne _ _ (pz_nef hnq1 hp)]; exact g_55
  have h_61 : f58 q10 = .inr (0, [.int 0, .ref G.2.2.1, .int 0]) := by rw [ef58, va_up_ne _ _ (pz_nef hnq10 (List.mem_append_left _ hp))]; exact g_56
  have h_62 : f58 q20 = .inr (1, [.int 42152922, .int 655360, .int 262144]) := by rw [ef58, va_up_ne _ _ (pz_nef hnq20 (List.mem_append_left _ (List.mem_append_left _ hp)))]; exact g_57
  have h_63 : f58 q30 = .inr (2, [.ref to6, .ref q20, .int op_0.1, .long op_0.2.1, .int op_0.2.2.1, .int op_0.2.2.2.1, .int op_0.2.2.2.2.1, .int op_0.2.2.2.2.2]) := by rw [ef58, va_up_ne _ _ (pz_nef hnq30 (List.mem_append_left _ (List.mem_append_left _ (List.mem_append_left _ hp))))]; exact hfo6
  have tp : tg (f6 pm) = 4 := by rw [g_54]; rfl
  have h76 : ∀ z, z ≠ pm → f58 z = f6 z := fun z z1 => by rw [ef58]; exact va_up_ne _ _ z1
  exact pz_vret hx hb hr hlocks hK hP hD hS (Nat.le_of_ble_eq_true rfl) (Nat.le_of_ble_eq_true rfl) ⟨q1, q10, q20, q30, to6, sa6, ⟨(hsub6 _ (List.mem_append_left _ (List.mem_append_left _ (List.mem_append_left _ (List.mem_append_left _ hp))))), h_59, ⟨0, (hsub6 _ (List.mem_append_left _ (List.mem_append_left _ (List.mem_append_left _ (l_in_new _ _))))), h_60, Or.inl ⟨rfl, rfl⟩⟩, ⟨0, (hsub6 _ (List.mem_append_left _ (List.mem_append_left _ (l_in_new _ _)))), h_61, Or.inl ⟨rfl, rfl⟩⟩, (Ne.symm (pz_nef hnq10 (l_in_new _ _))), fun h => absurd rfl h, ⟨rfl, fun i x it h => by cases h⟩, ⟨rfl, fun i x it h => by cases h⟩, (hsub6 _ (List.mem_append_left _ (l_in_new _ _))), h_62, (hsub6 _ (l_in_new _ _)), h_63, List.mem_append_left _ (l_in_new _ _), (h76 _ (tg_ne (show tg (f6 to6) = 3 by rw [hto6]; rfl) tp (by decide))).trans hto6, l_in_new _ _, (h76 _ (tg_ne (show tg (f6 sa6) = 101 by rw [hsa6]; rfl) tp (by decide))).trans hsa6, (hsub6 _ (List.mem_append_left _ (l_in_new _ _))), h_62⟩⟩ d_PM_init_58
