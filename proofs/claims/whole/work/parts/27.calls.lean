/-! PageMaker: frame, box, glue, kern, penalty: each where its numbers are right, and where it throws -/
theorem vp_in4 {o : Int32} (h1 : 0 ≤ o) (h2 : o < 4) : vp_in o 4 := by
  rw [Int32.le_iff_toInt_le, Int32.toInt_zero] at h1
  rw [Int32.lt_iff_toInt_lt, show (4 : Int32).toInt = 4 by decide] at h2
  exact vp_in_iff.mpr ⟨h1, h2⟩
/-- a new cell beside -/
theorem rx_grow {G : gG} {L : List Nat} {f f1 : Nat → va_E} {pm al ad el ed fr op to sa fo q : Nat} {xs ys : List Nat} {S : CS} (h : RX G L f pm al ad el ed fr op to sa fo xs ys S) (hq : q ∉ L) (hk : ∀ z, z ≠ q → f1 z = f z) : RX G (L ++ [q]) f1 pm al ad el ed fr op to sa fo xs ys S := by
  obtain ⟨a1, a2, a3, a4, a5, a6, a7, a8, a9, b1, b2, b3, b4, b5, b6, b7, b8, b9⟩ := h
  have hsub : ∀ z, z ∈ L → z ∈ L ++ [q] := fun z hz => List.mem_append_left _ hz
  have kp : ∀ z, z ∈ L → f1 z = f z := fun z hz => hk z (Ne.symm (pz_nef hq hz))
  exact ⟨hsub _ a1, (kp _ a1).trans a2, lr_keep2 a3 hsub (kp _ (lr_tg a3).1) (fun _ h _ => kp _ h), lr_keep2 a4 hsub (kp _ (lr_tg a4).1) (fun _ h _ => kp _ h), a5, a6, xr_keep a7 hsub (fun z hz _ _ => kp z hz), yr_keep a8 hsub (fun z hz _ => kp z hz), hsub _ a9, (kp _ a9).trans b1, hsub _ b2, (kp _ b2).trans b3, hsub _ b4, (kp _ b4).trans b5, hsub _ b6, (kp _ b6).trans b7, hsub _ b8, (kp _ b8).trans b9⟩
/-- a new frame -/
theorem rx_frame {G : gG} {L : List Nat} {f f1 : Nat → va_E} {pm al ad el ed fr op to sa fo q : Nat} {xs ys : List Nat} {S : CS} {F1 : Fr} (h : RX G L f pm al ad el ed fr op to sa fo xs ys S) (hq : q ∉ L) (h1 : f1 pm = .inr (4, [.ref al, .ref el, .ref q, .ref op])) (h2 : f1 q = frE F1) (hk : ∀ z, z ≠ pm → z ≠ q → f1 z = f z) : RX G (L ++ [q]) f1 pm al ad el ed q op to sa fo xs ys (S.1, F1, S.2.2.1, S.2.2.2.1, S.2.2.2.2.1, S.2.2.2.2.2) := by
  obtain ⟨a1, a2, a3, a4, a5, a6, a7, a8, a9, b1, b2, b3, b4, b5, b6, b7, b8, b9⟩ := h
  have hsub : ∀ z, z ∈ L → z ∈ L ++ [q] := fun z hz => List.mem_append_left _ hz
  have tp : tg (f pm) = 4 := by rw [a2]; rfl
  have kp : ∀ z, z ∈ L → tg (f z) ≠ 4 → f1 z = f z := fun z hz ht => hk z (tg_ne rfl tp ht) (Ne.symm (pz_nef hq hz))
  have kp2 : ∀ z j, z ∈ L → tg (f z) = j → j ≠ 4 → f1 z = f z := fun z j hz e q1 => kp z hz (by rw [e]; exact q1)
  exact ⟨hsub _ a1, h1, lr_keep2 a3 hsub (kp2 _ 0 (lr_tg a3).1 (lr_tg a3).2 (by decide)) (fun _ h t => kp2 _ 104 h t (by decide)), lr_keep2 a4 hsub (kp2 _ 0 (lr_tg a4).1 (lr_tg a4).2 (by decide)) (fun _ h t => kp2 _ 104 h t (by decide)), a5, a6, xr_keep a7 hsub (fun z hz _ _ => kp z hz (by omega)), yr_keep a8 hsub (fun z hz q => kp z hz (by omega)), l_in_new _ _, h2, hsub _ b2, (kp2 op 2 b2 (by rw [b3]; rfl) (by decide)).trans b3, hsub _ b4, (kp2 to 3 b4 (by rw [b5]; rfl) (by decide)).trans b5, hsub _ b6, (kp2 sa 101 b6 (by rw [b7]; rfl) (by decide)).trans b7, hsub _ b8, (kp2 fo 1 b8 (by rw [b9]; rfl) (by decide)).trans b9⟩
set_option maxHeartbeats 4000000 in
set_option maxRecDepth 100000 in
/-- frame, the sizes right -/
theorem c_PM_frame (l : Launch) (G : gG) (L : List Nat) (f : Nat → va_E) (sz : Nat) (pm al ad el ed fr op to sa fo : Nat) (xs ys : List Nat) (its : List It) (F9 : Fr) (pgs : List (Fr × Pg)) (F : Fr) (P : Op) (T : Tt) (h t g : Int32) (hR : RX G L f pm al ad el ed fr op to sa fo xs ys (its, F9, pgs, F, P, T)) (h1 : k_isZ h) (h2 : k_isS t) (h3 : k_isZ g) : mV l y_PM_frame w_PM_frame ({ frames := 2, cells := 1, slots := 3, locals := 43 }) G L f sz [.ref pm, .int h, .int t, .int g] 1 3 (fun u => ∃ fr1, RX G u.1 u.2 pm al ad el ed fr1 op to sa fo xs ys (its, (h, t, g), pgs, F, P, T)) := by
  refine pz_met (cc := prog_1_method_2_code) (maxL := 4) (ret := none) (by decide) rfl (Nat.le_of_ble_eq_true rfl) ?_
  intro p e s m below meth c ls hx hb hr hml hts hown hlocks hin hsz hK hP hD hS hA hz hl
  have htb : ∀ w ∈ TB, w.before _ s = true := fun w h => hts w (List.mem_cons_of_mem _ h)
  have hl : lv_has ls 4 [(0, .ref pm), (1, .int h), (2, .int t), (3, .int g)] := hl
  obtain ⟨hp, hfp, h_al, h_el, hne9, hdd, hX, hY, hr9, hfr, ho, hfo, ht, hft, hs9, hsa, hr8, hfof⟩ := id hR
  have hX : XR L f xs its := hX
  have hY : YR L f ys pgs := hY
  have hfr : f fr = frE F9 := hfr
  have hfo : f op = opE to fo P := hfo
  have hft : f to = toE sa T := hft
  have hsa : f sa = saE G T := hsa
  have hfof : f fo = frE F := hfof
  obtain ⟨mo_al, hm_al, hc_al, -⟩ := id h_al
  refine lv_iload_n hx hb d_PM_frame_0 rfl (lv_at hl 1 rfl) ?_
  refine vp_callSi (va_Run.run (va_runS (As := [.int h]) (rest := []) ⟨hx, hb, hml, hown, hts⟩ (c_PM_isSizeFromZero l h) (cwS 1 hts (tb_S tw_193 tw_194 tw_1 tw_195) rfl rfl rfl (by decide +kernel) ⟨(Nat.le_of_ble_eq_true rfl), (Nat.le_of_ble_eq_true rfl)⟩) pz_preP rfl rfl hl.1 rfl (lv_room (Nat.le_of_ble_eq_true rfl)) d_PM_frame_1 ⟨(Nat.le_of_ble_eq_true rfl), (Nat.le_of_ble_eq_true rfl)⟩)) (fun r1 hw => ?_)
  have hw : r1 = 1 := k_by (show k_b (k_isZ h) r1 from hw) h1
  subst hw
  refine lv_if_eq (tgt := 21) hx hb d_PM_frame_4 (by decide) (fun c0 => absurd c0 (by decide)) (fun _ => ?_)
  refine lv_iload_n hx hb d_PM_frame_7 rfl (lv_at hl 2 rfl) ?_
  refine vp_callSi (va_Run.run (va_runS (As := [.int t]) (rest := []) ⟨hx, hb, hml, hown, hts⟩ (c_PM_isSize l t) (cwS 1 hts (tb_S tw_197 tw_198 tw_1 tw_199) rfl rfl rfl (by decide +kernel) ⟨(Nat.le_of_ble_eq_true rfl), (Nat.le_of_ble_eq_true rfl)⟩) pz_preP rfl rfl hl.1 rfl (lv_room (Nat.le_of_ble_eq_true rfl)) d_PM_frame_8 ⟨(Nat.le_of_ble_eq_true rfl), (Nat.le_of_ble_eq_true rfl)⟩)) (fun r2 hw => ?_)
  have hw : r2 = 1 := k_by (show k_b (k_isS t) r2 from hw) h2
  subst hw
  refine lv_if_eq (tgt := 21) hx hb d_PM_frame_11 (by decide) (fun c0 => absurd c0 (by decide)) (fun _ => ?_)
  refine lv_iload_n hx hb d_PM_frame_14 rfl (lv_at hl 3 rfl) ?_
  refine vp_callSi (va_Run.run (va_runS (As := [.int g]) (rest := []) ⟨hx, hb, hml, hown, hts⟩ (c_PM_isSizeFromZero l g) (cwS 1 hts (tb_S tw_193 tw_194 tw_1 tw_195) rfl rfl rfl (by decide +kernel) ⟨(Nat.le_of_ble_eq_true rfl), (Nat.le_of_ble_eq_true rfl)⟩) pz_preP rfl rfl hl.1 rfl (lv_room (Nat.le_of_ble_eq_true rfl)) d_PM_frame_15 ⟨(Nat.le_of_ble_eq_true rfl), (Nat.le_of_ble_eq_true rfl)⟩)) (fun r3 hw => ?_)
  have hw : r3 = 1 := k_by (show k_b (k_isZ g) r3 from hw) h3
  subst hw
  refine lv_if_ne (tgt := 31) hx hb d_PM_frame_18 (by decide) (fun _ => ?_) (fun c0 => absurd c0 (by decide))
  refine lv_aload_n hx hb d_PM_frame_31 rfl (lv_at hl 0 rfl) ?_
  refine pz_new (ci := 1) (fs := [.int 0, .int 0, .int 0]) (C := "PageMaker$Frame") (T := T_FR) (N := 3) hx hb htb in_FR ty_FR to_FR hown (htb _ tw_61) (htb _ tw_62) (htb _ tw_5) hK hP hD hS hA rfl (fun j hj => by rcases (show j = 0 ∨ j = 1 ∨ j = 2 by omega) with rfl | rfl | rfl <;> rfl) (Nat.le_of_ble_eq_true rfl) (Nat.le_of_ble_eq_true rfl) d_PM_frame_32 (fun q4 L5 f6 H hnq4 eL5 ef6 hP hD hS => ?_)
  subst L5
  refine lv_dup hx hb d_PM_frame_35 rfl ?_
  refine lv_iload_n hx hb d_PM_frame_36 rfl (lv_at hl 1 rfl) ?_
  refine lv_iload_n hx hb d_PM_frame_37 rfl (lv_at hl 2 rfl) ?_
  refine lv_iload_n hx hb d_PM_frame_38 rfl (lv_at hl 3 rfl) ?_
  have h_7 : f6 q4 = .inr (1, [.int 0, .int 0, .int 0]) := by rw [ef6]; exact va_up_self _ _ _
  refine pz_cv (va_runI (As := [.int h, .int t, .int g]) (rest := [.ref q4, .ref pm]) ⟨hx, hb, hml, hown, hts⟩ (c_FR_init l G (L ++ [q4]) f6 _ q4 h t g 0 0 0 (l_in_new _ _) h_7) (cwI 3 hts (tb_good tw_68) rfl rfl rfl (htb _ tw_5) (htb _ tw_66) (htb _ tw_67) rfl (by decide +kernel) ⟨(Nat.le_of_ble_eq_true rfl), (Nat.le_of_ble_eq_true rfl)⟩) (pz_pre (zz_ok _ _ _) hK hP hD hS hA hz) rfl rfl hl.1 rfl (lv_room (Nat.le_of_ble_eq_true rfl)) d_PM_frame_39 ⟨(Nat.le_of_ble_eq_true rfl), (Nat.le_of_ble_eq_true rfl)⟩) hP hD hS hA (fun L9 f8 H locs hw hP hD hS => ?_)
  have ef8 : f8 = va_up (f6) q4 (.inr (1, [.int h, .int t, .int g])) := (Prod.mk.inj hw).2
  have eL9 : L9 = (L ++ [q4]) := (Prod.mk.inj hw).1
  subst L9
  have h_11 : f6 pm = .inr (4, [.ref al, .ref el, .ref fr, .ref op]) := by rw [ef6, va_up_ne _ _ (Ne.symm (pz_nef hnq4 hp))]; exact hfp
  have h_10 : f8 pm = .inr (4, [.ref al, .ref el, .ref fr, .ref op]) := by rw [ef8, va_up_ne _ _ (Ne.symm (pz_nef hnq4 hp))]; exact h_11
  refine pz_put (ci := 4) (v := .ref q4) (ty := .object "PageMaker$Frame") (C := "PageMaker") (T := T_PM) (N := 4) hx hb htb in_PM ty_PM to_PM nm_PM hown hK hP hD hS (List.mem_append_left _ hp) h_10 rfl 2 (by decide) (htb _ tw_162) (fun _ h9 => h9) rfl rfl rfl rfl (Nat.le_of_ble_eq_true rfl) d_PM_frame_42 (fun f12 H locs ef12 hP hD hS => ?_)
  have ef12 : f12 = va_up f8 pm (.inr (4, [.ref al, .ref el, .ref q4, .ref op])) := ef12
  have k1 : f12 pm = .inr (4, [.ref al, .ref el, .ref q4, .ref op]) := by rw [ef12]; exact va_up_self _ _ _
  have k2 : f12 q4 = frE (h, t, g) := by rw [ef12, va_up_ne _ _ (pz_nef hnq4 hp), ef8]; exact va_up_self _ _ _
  have k3 : ∀ z, z ≠ pm → z ≠ q4 → f12 z = f z := fun z z1 z2 => by rw [ef12, va_up_ne _ _ z1, ef8, va_up_ne _ _ z2, ef6, va_up_ne _ _ z2]
  exact pz_vret hx hb hr hlocks hK hP hD hS (Nat.le_of_ble_eq_true rfl) (Nat.le_of_ble_eq_true rfl) ⟨q4, rx_frame hR hnq4 k1 k2 k3⟩ d_PM_frame_45
set_option maxHeartbeats 4000000 in
set_option maxRecDepth 100000 in
/-- frame throws -/
theorem x_PM_frame (l : Launch) (hl9 : l.stackTraces = false) (G : gG) (L : List Nat) (f : Nat → va_E) (sz : Nat) (pm : Nat) (h t g : Int32) (hno : ¬ (k_isZ h ∧ k_isS t ∧ k_isZ g)) : mX l y_PM_frame w_PM_frame ({ frames := 6, cells := 1, slots := 6, locals := 82 }) G L f sz [.ref pm, .int h, .int t, .int g] "java/lang/IllegalArgumentException" := by
  refine pz_metX (cc := prog_1_method_2_code) (maxL := 4) (ret := none) (by decide) rfl (Nat.le_of_ble_eq_true rfl) ?_
  intro p e s m below meth c ls hx hb hr hml hts hown hlocks hnt hsz hK hP hD hS hA hz hl
  have htb : ∀ w ∈ TB, w.before _ s = true := fun w h => hts w (List.mem_cons_of_mem _ h)
  have hl : lv_has ls 4 [(0, .ref pm), (1, .int h), (2, .int t), (3, .int g)] := hl
  refine lv_iload_n hx hb d_PM_frame_0 rfl (lv_at hl 1 rfl) ?_
  refine vp_callSi (va_Run.run (va_runS (As := [.int h]) (rest := []) ⟨hx, hb, hml, hown, hts⟩ (c_PM_isSizeFromZero l h) (cwS 1 hts (tb_S tw_193 tw_194 tw_1 tw_195) rfl rfl rfl (by decide +kernel) ⟨(Nat.le_of_ble_eq_true rfl), (Nat.le_of_ble_eq_true rfl)⟩) pz_preP rfl rfl hl.1 rfl (lv_room (Nat.le_of_ble_eq_true rfl)) d_PM_frame_1 ⟨(Nat.le_of_ble_eq_true rfl), (Nat.le_of_ble_eq_true rfl)⟩)) (fun r1 hw => ?_)
  rcases (show k_b (k_isZ h) r1 from hw) with ⟨rfl, hq2⟩ | ⟨rfl, hq2⟩
  · refine lv_if_eq (tgt := 21) hx hb d_PM_frame_4 (by decide) (fun c0 => absurd c0 (by decide)) (fun _ => ?_)
    refine lv_iload_n hx hb d_PM_frame_7 rfl (lv_at hl 2 rfl) ?_
    refine vp_callSi (va_Run.run (va_runS (As := [.int t]) (rest := []) ⟨hx, hb, hml, hown, hts⟩ (c_PM_isSize l t) (cwS 1 hts (tb_S tw_197 tw_198 tw_1 tw_199) rfl rfl rfl (by decide +kernel) ⟨(Nat.le_of_ble_eq_true rfl), (Nat.le_of_ble_eq_true rfl)⟩) pz_preP rfl rfl hl.1 rfl (lv_room (Nat.le_of_ble_eq_true rfl)) d_PM_frame_8 ⟨(Nat.le_of_ble_eq_true rfl), (Nat.le_of_ble_eq_true rfl)⟩)) (fun r3 hw => ?_)
    rcases (show k_b (k_isS t) r3 from hw) with ⟨rfl, hq4⟩ | ⟨rfl, hq4⟩
    · refine lv_if_eq (tgt := 21) hx hb d_PM_frame_11 (by decide) (fun c0 => absurd c0 (by decide)) (fun _ => ?_)
      refine lv_iload_n hx hb d_PM_frame_14 rfl (lv_at hl 3 rfl) ?_
      refine vp_callSi (va_Run.run (va_runS (As := [.int g]) (rest := []) ⟨hx, hb, hml, hown, hts⟩ (c_PM_isSizeFromZero l g) (cwS 1 hts (tb_S tw_193 tw_194 tw_1 tw_195) rfl rfl rfl (by decide +kernel) ⟨(Nat.le_of_ble_eq_true rfl), (Nat.le_of_ble_eq_true rfl)⟩) pz_preP rfl rfl hl.1 rfl (lv_room (Nat.le_of_ble_eq_true rfl)) d_PM_frame_15 ⟨(Nat.le_of_ble_eq_true rfl), (Nat.le_of_ble_eq_true rfl)⟩)) (fun r5 hw => ?_)
      rcases (show k_b (k_isZ g) r5 from hw) with ⟨rfl, hq6⟩ | ⟨rfl, hq6⟩
      · exact absurd ⟨hq2, hq4, hq6⟩ hno
      · refine lv_if_ne (tgt := 31) hx hb d_PM_frame_18 (by decide) (fun c0 => absurd c0 (by decide)) (fun _ => ?_)
        exact pz_thr 49 "a frame needs sizes, its height and greatest depth not below 0" 47 51 hx hb hl9 hown (by decide +kernel) htb hz hnt hlocks hK hP hD hS tw_201 tw_12 at_IAE1 at_IAE2 at_IAE3 (by decide +kernel) hml hl.1 d_PM_frame_21 d_PM_frame_24 d_PM_frame_25 d_PM_frame_27 d_PM_frame_30 (Nat.le_of_ble_eq_true rfl) (Nat.le_of_ble_eq_true rfl) (Nat.le_of_ble_eq_true rfl) (Nat.le_of_ble_eq_true rfl) (Nat.le_of_ble_eq_true rfl) (Nat.le_of_ble_eq_true rfl)
    · refine lv_if_eq (tgt := 21) hx hb d_PM_frame_11 (by decide) (fun _ => ?_) (fun c0 => absurd c0 (by decide))
      exact pz_thr 49 "a frame needs sizes, its height and greatest depth not below 0" 47 51 hx hb hl9 hown (by decide +kernel) htb hz hnt hlocks hK hP hD hS tw_201 tw_12 at_IAE1 at_IAE2 at_IAE3 (by decide +kernel) hml hl.1 d_PM_frame_21 d_PM_frame_24 d_PM_frame_25 d_PM_frame_27 d_PM_frame_30 (Nat.le_of_ble_eq_true rfl) (Nat.le_of_ble_eq_true rfl) (Nat.le_of_ble_eq_true rfl) (Nat.le_of_ble_eq_true rfl) (Nat.le_of_ble_eq_true rfl) (Nat.le_of_ble_eq_true rfl)
  · refine lv_if_eq (tgt := 21) hx hb d_PM_frame_4 (by decide) (fun _ => ?_) (fun c0 => absurd c0 (by decide))
    exact pz_thr 49 "a frame needs sizes, its height and greatest depth not below 0" 47 51 hx hb hl9 hown (by decide +kernel) htb hz hnt hlocks hK hP hD hS tw_201 tw_12 at_IAE1 at_IAE2 at_IAE3 (by decide +kernel) hml hl.1 d_PM_frame_21 d_PM_frame_24 d_PM_frame_25 d_PM_frame_27 d_PM_frame_30 (Nat.le_of_ble_eq_true rfl) (Nat.le_of_ble_eq_true rfl) (Nat.le_of_ble_eq_true rfl) (Nat.le_of_ble_eq_true rfl) (Nat.le_of_ble_eq_true rfl) (Nat.le_of_ble_eq_true rfl)
set_option maxHeartbeats 4000000 in
set_option maxRecDepth 100000 in
/-- needRoom: there is room -/
theorem c_PM_needRoom (l : Launch) (G : gG) (L : List Nat) (f : Nat → va_E) (sz : Nat) (pm al ad el ed fr op to sa fo : Nat) (xs ys : List Nat) (its : List It) (F9 : Fr) (pgs : List (Fr × Pg)) (F : Fr) (P : Op) (T : Tt) (hR : RX G L f pm al ad el ed fr op to sa fo xs ys (its, F9, pgs, F, P, T)) (hn5 : its.length < 512) : mV l y_PM_needRoom w_PM_needRoom ({ frames := 1, cells := 0, slots := 0, locals := 20 }) G L f sz [.ref pm] 0 0 (fun u => u = (L, f)) := by
  refine pz_met (cc := prog_1_method_15_code) (maxL := 1) (ret := none) (by decide) rfl (Nat.le_of_ble_eq_true rfl) ?_
  intro p e s m below meth c ls hx hb hr hml hts hown hlocks hin hsz hK hP hD hS hA hz hl
  have htb : ∀ w ∈ TB, w.before _ s = true := fun w h => hts w (List.mem_cons_of_mem _ h)
  have hl : lv_has ls 1 [(0, .ref pm)] := hl
  obtain ⟨hp, hfp, h_al, h_el, hne9, hdd, hX, hY, hr9, hfr, ho, hfo, ht, hft, hs9, hsa, hr8, hfof⟩ := id hR
  have hX : XR L f xs its := hX
  have hY : YR L f ys pgs := hY
  have hfr : f fr = frE F9 := hfr
  have hfo : f op = opE to fo P := hfo
  have hft : f to = toE sa T := hft
  have hsa : f sa = saE G T := hsa
  have hfof : f fo = frE F := hfof
  obtain ⟨mo_al, hm_al, hc_al, -⟩ := id h_al
  have hxl : xs.length = its.length := hX.1
  refine lv_aload_n hx hb d_PM_needRoom_0 rfl (lv_at hl 0 rfl) ?_
  refine pz_get (ci := 4) (C := "PageMaker") (T := T_PM) (N := 4) hx hb htb in_PM hown hK hP hp hfp rfl 0 (by decide) (htb _ tw_160) (fun _ h9 => h9) rfl d_PM_needRoom_1 ?_
  refine vp_callSi (va_Run.run (va_runV (As := []) (rest := []) ⟨hx, hb, hml, hown, hts⟩ (al_size l G L f _ al ad xs h_al) (cwV 0 hts (tb_V tw_177 tw_178 tw_179 tw_4 tw_180) rfl rfl rfl (by decide +kernel) ⟨(Nat.le_of_ble_eq_true rfl), (Nat.le_of_ble_eq_true rfl)⟩) (pz_preV (zz_ok _ _ _) hK hP hD hS hA hz (ci := 0) rfl rfl hm_al hc_al) rfl rfl hl.1 rfl (lv_room (Nat.le_of_ble_eq_true rfl)) d_PM_needRoom_4 ⟨(Nat.le_of_ble_eq_true rfl), (Nat.le_of_ble_eq_true rfl)⟩)) (fun r1 hw => ?_)
  have hw : r1 = nI xs.length := hw
  subst r1
  refine lv_sipush (v := 2000) hx hb d_PM_needRoom_7 (by decide) ?_
  refine lv_icmp_lt (tgt := 23) hx hb d_PM_needRoom_10 (by decide) (fun _ => ?_) (fun c0 => absurd (show nI xs.length < 2000 from nI_lt (b := 2000) (by omega) (by decide)) c0)
  exact pz_vret hx hb hr hlocks hK hP hD hS (Nat.le_of_ble_eq_true rfl) (Nat.le_of_ble_eq_true rfl) rfl d_PM_needRoom_23
set_option maxHeartbeats 4000000 in
set_option maxRecDepth 100000 in
/-- box, the numbers right -/
theorem c_PM_box (l : Launch) (G : gG) (L : List Nat) (f : Nat → va_E) (sz : Nat) (pm al ad el ed fr op to sa fo : Nat) (xs ys : List Nat) (its : List It) (F9 : Fr) (pgs : List (Fr × Pg)) (F : Fr) (P : Op) (T : Tt) (tag h d : Int32) (hR : RX G L f pm al ad el ed fr op to sa fo xs ys (its, F9, pgs, F, P, T)) (hv0 : 0 ≤ tag) (hv1 : k_isS h) (hv2 : k_isS d) (hn5 : its.length < 512) (hpg : pgs.length ≤ 512) (hok9 : c_ok 4004001 (its ++ [.inl (h, d)], F9, pgs, F, P, T) its.length) : mI l y_PM_box w_PM_box ({ frames := 10, cells := 1 + (1 + 7 * ((c_run 4004001 (its ++ [.inl (h, d)], F9, pgs, F, P, T) its.length).1.2.2.1.length - pgs.length)), slots := 2 + (900 + 933 * ((c_run 4004001 (its ++ [.inl (h, d)], F9, pgs, F, P, T) its.length).1.2.2.1.length - pgs.length)), locals := 237 }) G L f sz [.ref pm, .int tag, .int h, .int d] (1 + (1 + 7 * ((c_run 4004001 (its ++ [.inl (h, d)], F9, pgs, F, P, T) its.length).1.2.2.1.length - pgs.length))) (2 + (900 + 933 * ((c_run 4004001 (its ++ [.inl (h, d)], F9, pgs, F, P, T) its.length).1.2.2.1.length - pgs.length))) (fun r u => r = nI (c_run 4004001 (its ++ [.inl (h, d)], F9, pgs, F, P, T) its.length).1.2.2.1.length ∧ ∃ ad1 ed1 op1 to1 sa1 fo1 xs1 ys1, RX G u.1 u.2 pm al ad1 el ed1 fr op1 to1 sa1 fo1 xs1 ys1 (c_run 4004001 (its ++ [.inl (h, d)], F9, pgs, F, P, T) its.length).1) := by
  refine pz_met (cc := prog_1_method_3_code) (maxL := 4) (ret := (some .int)) (by decide) rfl (Nat.le_of_ble_eq_true rfl) ?_
  intro p e s m below meth c ls hx hb hr hml hts hown hlocks hin hsz hK hP hD hS hA hz hl
  have htb : ∀ w ∈ TB, w.before _ s = true := fun w h => hts w (List.mem_cons_of_mem _ h)
  have hl : lv_has ls 4 [(0, .ref pm), (1, .int tag), (2, .int h), (3, .int d)] := hl
  obtain ⟨hp, hfp, h_al, h_el, hne9, hdd, hX, hY, hr9, hfr, ho, hfo, ht, hft, hs9, hsa, hr8, hfof⟩ := id hR
  have hX : XR L f xs its := hX
  have hY : YR L f ys pgs := hY
  have hfr : f fr = frE F9 := hfr
  have hfo : f op = opE to fo P := hfo
  have hft : f to = toE sa T := hft
  have hsa : f sa = saE G T := hsa
  have hfof : f fo = frE F := hfof
  obtain ⟨mo_al, hm_al, hc_al, -⟩ := id h_al
  refine lv_iload_n hx hb d_PM_box_0 rfl (lv_at hl 1 rfl) ?_
  refine lv_if_lt (tgt := 18) hx hb d_PM_box_1 (by decide) (fun c0 => absurd c0 (i32_nlt hv0)) (fun _ => ?_)
  refine lv_iload_n hx hb d_PM_box_4 rfl (lv_at hl 2 rfl) ?_
  refine vp_callSi (va_Run.run (va_runS (As := [.int h]) (rest := []) ⟨hx, hb, hml, hown, hts⟩ (c_PM_isSize l h) (cwS 1 hts (tb_S tw_197 tw_198 tw_1 tw_199) rfl rfl rfl (by decide +kernel) ⟨(Nat.le_of_ble_eq_true rfl), (Nat.le_of_ble_eq_true rfl)⟩) pz_preP rfl rfl hl.1 rfl (lv_room (Nat.le_of_ble_eq_true rfl)) d_PM_box_5 ⟨(Nat.zero_le _), (Nat.zero_le _)⟩)) (fun r1 hw => ?_)
  have hw : r1 = 1 := k_by (show k_b (k_isS h) r1 from hw) hv1
  subst hw
  refine lv_if_eq (tgt := 18) hx hb d_PM_box_8 (by decide) (fun c0 => absurd c0 (by decide)) (fun _ => ?_)
  refine lv_iload_n hx hb d_PM_box_11 rfl (lv_at hl 3 rfl) ?_
  refine vp_callSi (va_Run.run (va_runS (As := [.int d]) (rest := []) ⟨hx, hb, hml, hown, hts⟩ (c_PM_isSize l d) (cwS 1 hts (tb_S tw_197 tw_198 tw_1 tw_199) rfl rfl rfl (by decide +kernel) ⟨(Nat.le_of_ble_eq_true rfl), (Nat.le_of_ble_eq_true rfl)⟩) pz_preP rfl rfl hl.1 rfl (lv_room (Nat.le_of_ble_eq_true rfl)) d_PM_box_12 ⟨(Nat.zero_le _), (Nat.zero_le _)⟩)) (fun r2 hw => ?_)
  have hw : r2 = 1 := k_by (show k_b (k_isS d) r2 from hw) hv2
  subst hw
  refine lv_if_ne (tgt := 28) hx hb d_PM_box_15 (by decide) (fun _ => ?_) (fun c0 => absurd c0 (by decide))
  refine lv_aload_n hx hb d_PM_box_28 rfl (lv_at hl 0 rfl) ?_
  refine pz_cv (va_runV (As := []) (rest := []) ⟨hx, hb, hml, hown, hts⟩ (c_PM_needRoom l G L f _ pm al ad el ed fr op to sa fo xs ys its F9 pgs F P T hR hn5) (cwV 0 hts (tb_V tw_278 tw_280 tp_1 tw_1 tw_281) rfl rfl rfl (by decide +kernel) ⟨(Nat.le_of_ble_eq_true rfl), (Nat.le_of_ble_eq_true rfl)⟩) (pz_preV (zz_ok _ _ _) hK hP hD hS hA hz (ci := 4) rfl rfl hp hfp) rfl rfl hl.1 rfl (lv_room (Nat.le_of_ble_eq_true rfl)) d_PM_box_29 ⟨(Nat.zero_le _), (Nat.zero_le _)⟩) hP hD hS hA (fun L8 f8 H locs hw hP hD hS => ?_)
  have eL8 : L8 = L := (Prod.mk.inj hw).1
  have ef8 : f8 = f := (Prod.mk.inj hw).2
  subst L8
  subst f8
  refine lv_aload_n hx hb d_PM_box_32 rfl (lv_at hl 0 rfl) ?_
  refine pz_new (ci := 5) (fs := [.int 0, .int 0]) (C := "PageMaker$Box") (T := T_BX) (N := 2) hx hb htb in_BX ty_BX to_BX hown (htb _ tw_298) (htb _ tw_299) (htb _ tw_15) hK hP hD hS hA rfl (fun j hj => by rcases (show j = 0 ∨ j = 1 by omega) with rfl | rfl <;> rfl) (Nat.le_add_right _ _) (Nat.le_add_right _ _) d_PM_box_33 (fun q3 L4 f5 H hnq3 eL4 ef5 hP hD hS => ?_)
  subst L4
  refine lv_dup hx hb d_PM_box_36 rfl ?_
  refine lv_iload_n hx hb d_PM_box_37 rfl (lv_at hl 2 rfl) ?_
  refine lv_iload_n hx hb d_PM_box_38 rfl (lv_at hl 3 rfl) ?_
  have h_6 : f5 q3 = .inr (5, [.int 0, .int 0]) := by rw [ef5]; exact va_up_self _ _ _
  refine pz_cv (va_runI (As := [.int h, .int d]) (rest := [.ref q3, .ref pm]) ⟨hx, hb, hml, hown, hts⟩ (c_BX_init l G (L ++ [q3]) f5 _ q3 0 0 h d (l_in_new _ _) h_6) (cwI 2 hts (tb_good tw_302) rfl rfl rfl (htb _ tw_15) (htb _ tw_300) (htb _ tw_301) rfl (by decide +kernel) ⟨(Nat.le_of_ble_eq_true rfl), (Nat.le_of_ble_eq_true rfl)⟩) (pz_pre (zz_ok _ _ _) hK hP hD hS hA hz) rfl rfl hl.1 rfl (lv_room (Nat.le_of_ble_eq_true rfl)) d_PM_box_39 ⟨(Nat.le_add_right _ _), (Nat.le_add_right _ _)⟩) hP hD hS hA (fun L8 f7 H locs hw hP hD hS => ?_)
  have ef7 : f7 = va_up (f5) q3 (.inr (5, [.int h, .int d])) := (Prod.mk.inj hw).2
  have eL8 : L8 = (L ++ [q3]) := (Prod.mk.inj hw).1
  subst L8
  have hR2 : RX G (L ++ [q3]) f7 pm al ad el ed fr op to sa fo xs ys (its, F9, pgs, F, P, T) := rx_grow hR hnq3 (fun z z1 => by rw [ef7, va_up_ne _ _ z1, ef5, va_up_ne _ _ z1])
  have hq2 : f7 q3 = itE (.inl (h, d)) := by rw [ef7]; exact va_up_self _ _ _
  have h_10 : f5 pm = .inr (4, [.ref al, .ref el, .ref fr, .ref op]) := by rw [ef5, va_up_ne _ _ (Ne.symm (pz_nef hnq3 hp))]; exact hfp
  have h_9 : f7 pm = .inr (4, [.ref al, .ref el, .ref fr, .ref op]) := by rw [ef7, va_up_ne _ _ (Ne.symm (pz_nef hnq3 hp))]; exact h_10
  refine pz_ci (va_runV (As := [.ref q3]) (rest := []) ⟨hx, hb, hml, hown, hts⟩ (c_PM_comeIn l G (L ++ [q3]) f7 _ pm al ad el ed fr op to sa fo xs ys its F9 pgs F P T q3 (.inl (h, d)) hR2 (l_in_new _ _) hq2 trivial hn5 hpg hok9) (cwV 1 hts (tb_V tw_316 tw_318 tp_2 tw_1 tw_319) rfl rfl rfl (by decide +kernel) ⟨(Nat.le_of_ble_eq_true rfl), (Nat.le_of_ble_eq_true rfl)⟩) (pz_preV (zz_ok _ _ _) hK hP hD hS hA hz (ci := 4) rfl rfl (List.mem_append_left _ hp) h_9) rfl rfl hl.1 rfl (lv_room (Nat.le_of_ble_eq_true rfl)) d_PM_box_42 ⟨(Nat.le_refl _), (Nat.le_refl _)⟩) hP hD hS hA (fun r9 L9 f9 H locs hw hP hD hS => ?_)
  obtain ⟨er9, ad1, ed1, op1, to1, sa1, fo1, ys1, hR9⟩ := hw
  exact pz_iret hx hb hr rfl hlocks hK hP hD hS (Nat.le_refl _) (Nat.le_refl _) ⟨er9, ad1, ed1, op1, to1, sa1, fo1, _, ys1, hR9⟩ d_PM_box_45
set_option maxHeartbeats 4000000 in
set_option maxRecDepth 100000 in
/-- box throws -/
theorem x_PM_box (l : Launch) (hl9 : l.stackTraces = false) (G : gG) (L : List Nat) (f : Nat → va_E) (sz : Nat) (pm : Nat) (tag h d : Int32) (hno : ¬ (0 ≤ tag ∧ k_isS h ∧ k_isS d)) : mX l y_PM_box w_PM_box ({ frames := 6, cells := 1, slots := 6, locals := 82 }) G L f sz [.ref pm, .int tag, .int h, .int d] "java/lang/IllegalArgumentException" := by
  refine pz_metX (cc := prog_1_method_3_code) (maxL := 4) (ret := (some .int)) (by decide) rfl (Nat.le_of_ble_eq_true rfl) ?_
  intro p e s m below meth c ls hx hb hr hml hts hown hlocks hnt hsz hK hP hD hS hA hz hl
  have htb : ∀ w ∈ TB, w.before _ s = true := fun w h => hts w (List.mem_cons_of_mem _ h)
  have hl : lv_has ls 4 [(0, .ref pm), (1, .int tag), (2, .int h), (3, .int d)] := hl
  refine lv_iload_n hx hb d_PM_box_0 rfl (lv_at hl 1 rfl) ?_
  refine lv_if_lt (tgt := 18) hx hb d_PM_box_1 (by decide) (fun c_1 => ?_) (fun c_1 => ?_)
  · exact pz_thr 54 "a box needs a tag not below 0 and two sizes" 47 51 hx hb hl9 hown (by decide +kernel) htb hz hnt hlocks hK hP hD hS tw_201 tw_12 at_IAE1 at_IAE2 at_IAE3 (by decide +kernel) hml hl.1 d_PM_box_18 d_PM_box_21 d_PM_box_22 d_PM_box_24 d_PM_box_27 (Nat.le_of_ble_eq_true rfl) (Nat.le_of_ble_eq_true rfl) (Nat.le_of_ble_eq_true rfl) (Nat.le_of_ble_eq_true rfl) (Nat.le_of_ble_eq_true rfl) (Nat.le_of_ble_eq_true rfl)
  · refine lv_iload_n hx hb d_PM_box_4 rfl (lv_at hl 2 rfl) ?_
    refine vp_callSi (va_Run.run (va_runS (As := [.int h]) (rest := []) ⟨hx, hb, hml, hown, hts⟩ (c_PM_isSize l h) (cwS 1 hts (tb_S tw_197 tw_198 tw_1 tw_199) rfl rfl rfl (by decide +kernel) ⟨(Nat.le_of_ble_eq_true rfl), (Nat.le_of_ble_eq_true rfl)⟩) pz_preP rfl rfl hl.1 rfl (lv_room (Nat.le_of_ble_eq_true rfl)) d_PM_box_5 ⟨(Nat.le_of_ble_eq_true rfl), (Nat.le_of_ble_eq_true rfl)⟩)) (fun r2 hw => ?_)
    rcases (show k_b (k_isS h) r2 from hw) with ⟨rfl, hq3⟩ | ⟨rfl, hq3⟩
    · refine lv_if_eq (tgt := 18) hx hb d_PM_box_8 (by decide) (fun c0 => absurd c0 (by decide)) (fun _ => ?_)
      refine lv_iload_n hx hb d_PM_box_11 rfl (lv_at hl 3 rfl) ?_
      refine vp_callSi (va_Run.run (va_runS (As := [.int d]) (rest := []) ⟨hx, hb, hml, hown, hts⟩ (c_PM_isSize l d) (cwS 1 hts (tb_S tw_197 tw_198 tw_1 tw_199) rfl rfl rfl (by decide +kernel) ⟨(Nat.le_of_ble_eq_true rfl), (Nat.le_of_ble_eq_true rfl)⟩) pz_preP rfl rfl hl.1 rfl (lv_room (Nat.le_of_ble_eq_true rfl)) d_PM_box_12 ⟨(Nat.le_of_ble_eq_true rfl), (Nat.le_of_ble_eq_true rfl)⟩)) (fun r4 hw => ?_)
      rcases (show k_b (k_isS d) r4 from hw) with ⟨rfl, hq5⟩ | ⟨rfl, hq5⟩
      · exact absurd ⟨(i32_le c_1), hq3, hq5⟩ hno
      · refine lv_if_ne (tgt := 28) hx hb d_PM_box_15 (by decide) (fun c0 => absurd c0 (by decide)) (fun _ => ?_)
        exact pz_thr 54 "a box needs a tag not below 0 and two sizes" 47 51 hx hb hl9 hown (by decide +kernel) htb hz hnt hlocks hK hP hD hS tw_201 tw_12 at_IAE1 at_IAE2 at_IAE3 (by decide +kernel) hml hl.1 d_PM_box_18 d_PM_box_21 d_PM_box_22 d_PM_box_24 d_PM_box_27 (Nat.le_of_ble_eq_true rfl) (Nat.le_of_ble_eq_true rfl) (Nat.le_of_ble_eq_true rfl) (Nat.le_of_ble_eq_true rfl) (Nat.le_of_ble_eq_true rfl) (Nat.le_of_ble_eq_true rfl)
    · refine lv_if_eq (tgt := 18) hx hb d_PM_box_8 (by decide) (fun _ => ?_) (fun c0 => absurd c0 (by decide))
      exact pz_thr 54 "a box needs a tag not below 0 and two sizes" 47 51 hx hb hl9 hown (by decide +kernel) htb hz hnt hlocks hK hP hD hS tw_201 tw_12 at_IAE1 at_IAE2 at_IAE3 (by decide +kernel) hml hl.1 d_PM_box_18 d_PM_box_21 d_PM_box_22 d_PM_box_24 d_PM_box_27 (Nat.le_of_ble_eq_true rfl) (Nat.le_of_ble_eq_true rfl) (Nat.le_of_ble_eq_true rfl) (Nat.le_of_ble_eq_true rfl) (Nat.le_of_ble_eq_true rfl) (Nat.le_of_ble_eq_true rfl)
set_option maxHeartbeats 4000000 in
set_option maxRecDepth 100000 in
/-- glue, the numbers right -/
theorem c_PM_glue (l : Launch) (G : gG) (L : List Nat) (f : Nat → va_E) (sz : Nat) (pm al ad el ed fr op to sa fo : Nat) (xs ys : List Nat) (its : List It) (F9 : Fr) (pgs : List (Fr × Pg)) (F : Fr) (P : Op) (T : Tt) (wd st od sh : Int32) (hR : RX G L f pm al ad el ed fr op to sa fo xs ys (its, F9, pgs, F, P, T)) (hv0 : k_isS wd) (hv1 : k_isZ st) (hv2 : k_isZ sh) (hv3 : 0 ≤ od) (hv4 : od < 4) (hn5 : its.length < 512) (hpg : pgs.length ≤ 512) (hok9 : c_ok 4004001 (its ++ [.inr (.inl (wd, st, od, sh))], F9, pgs, F, P, T) its.length) : mI l y_PM_glue w_PM_glue ({ frames := 10, cells := 1 + (1 + 7 * ((c_run 4004001 (its ++ [.inr (.inl (wd, st, od, sh))], F9, pgs, F, P, T) its.length).1.2.2.1.length - pgs.length)), slots := 4 + (900 + 933 * ((c_run 4004001 (its ++ [.inr (.inl (wd, st, od, sh))], F9, pgs, F, P, T) its.length).1.2.2.1.length - pgs.length)), locals := 237 }) G L f sz [.ref pm, .int wd, .int st, .int od, .int sh] (1 + (1 + 7 * ((c_run 4004001 (its ++ [.inr (.inl (wd, st, od, sh))], F9, pgs, F, P, T) its.length).1.2.2.1.length - pgs.length))) (4 + (900 + 933 * ((c_run 4004001 (its ++ [.inr (.inl (wd, st, od, sh))], F9, pgs, F, P, T) its.length).1.2.2.1.length - pgs.length))) (fun r u => r = nI (c_run 4004001 (its ++ [.inr (.inl (wd, st, od, sh))], F9, pgs, F, P, T) its.length).1.2.2.1.length ∧ ∃ ad1 ed1 op1 to1 sa1 fo1 xs1 ys1, RX G u.1 u.2 pm al ad1 el ed1 fr op1 to1 sa1 fo1 xs1 ys1 (c_run 4004001 (its ++ [.inr (.inl (wd, st, od, sh))], F9, pgs, F, P, T) its.length).1) := by
  refine pz_met (cc := prog_1_method_4_code) (maxL := 5) (ret := (some .int)) (by decide) rfl (Nat.le_of_ble_eq_true rfl) ?_
  intro p e s m below meth c ls hx hb hr hml hts hown hlocks hin hsz hK hP hD hS hA hz hl
  have htb : ∀ w ∈ TB, w.before _ s = true := fun w h => hts w (List.mem_cons_of_mem _ h)
  have hl : lv_has ls 5 [(0, .ref pm), (1, .int wd), (2, .int st), (3, .int od), (4, .int sh)] := hl
  obtain ⟨hp, hfp, h_al, h_el, hne9, hdd, hX, hY, hr9, hfr, ho, hfo, ht, hft, hs9, hsa, hr8, hfof⟩ := id hR
  have hX : XR L f xs its := hX
  have hY : YR L f ys pgs := hY
  have hfr : f fr = frE F9 := hfr
  have hfo : f op = opE to fo P := hfo
  have hft : f to = toE sa T := hft
  have hsa : f sa = saE G T := hsa
  have hfof : f fo = frE F := hfof
  obtain ⟨mo_al, hm_al, hc_al, -⟩ := id h_al
  refine lv_iload_n hx hb d_PM_glue_0 rfl (lv_at hl 1 rfl) ?_
  refine vp_callSi (va_Run.run (va_runS (As := [.int wd]) (rest := []) ⟨hx, hb, hml, hown, hts⟩ (c_PM_isSize l wd) (cwS 1 hts (tb_S tw_197 tw_198 tw_1 tw_199) rfl rfl rfl (by decide +kernel) ⟨(Nat.le_of_ble_eq_true rfl), (Nat.le_of_ble_eq_true rfl)⟩) pz_preP rfl rfl hl.1 rfl (lv_room (Nat.le_of_ble_eq_true rfl)) d_PM_glue_1 ⟨(Nat.zero_le _), (Nat.zero_le _)⟩)) (fun r1 hw => ?_)
  have hw : r1 = 1 := k_by (show k_b (k_isS wd) r1 from hw) hv0
  subst hw
  refine lv_if_eq (tgt := 22) hx hb d_PM_glue_4 (by decide) (fun c0 => absurd c0 (by decide)) (fun _ => ?_)
  refine lv_iload_n hx hb d_PM_glue_7 rfl (lv_at hl 2 rfl) ?_
  refine vp_callSi (va_Run.run (va_runS (As := [.int st]) (rest := []) ⟨hx, hb, hml, hown, hts⟩ (c_PM_isSizeFromZero l st) (cwS 1 hts (tb_S tw_193 tw_194 tw_1 tw_195) rfl rfl rfl (by decide +kernel) ⟨(Nat.le_of_ble_eq_true rfl), (Nat.le_of_ble_eq_true rfl)⟩) pz_preP rfl rfl hl.1 rfl (lv_room (Nat.le_of_ble_eq_true rfl)) d_PM_glue_8 ⟨(Nat.zero_le _), (Nat.zero_le _)⟩)) (fun r2 hw => ?_)
  have hw : r2 = 1 := k_by (show k_b (k_isZ st) r2 from hw) hv1
  subst hw
  refine lv_if_eq (tgt := 22) hx hb d_PM_glue_11 (by decide) (fun c0 => absurd c0 (by decide)) (fun _ => ?_)
  refine lv_iload hx hb d_PM_glue_14 (lv_at hl 4 rfl) ?_
  refine vp_callSi (va_Run.run (va_runS (As := [.int sh]) (rest := []) ⟨hx, hb, hml, hown, hts⟩ (c_PM_isSizeFromZero l sh) (cwS 1 hts (tb_S tw_193 tw_194 tw_1 tw_195) rfl rfl rfl (by decide +kernel) ⟨(Nat.le_of_ble_eq_true rfl), (Nat.le_of_ble_eq_true rfl)⟩) pz_preP rfl rfl hl.1 rfl (lv_room (Nat.le_of_ble_eq_true rfl)) d_PM_glue_16 ⟨(Nat.zero_le _), (Nat.zero_le _)⟩)) (fun r3 hw => ?_)
  have hw : r3 = 1 := k_by (show k_b (k_isZ sh) r3 from hw) hv2
  subst hw
  refine lv_if_ne (tgt := 32) hx hb d_PM_glue_19 (by decide) (fun _ => ?_) (fun c0 => absurd c0 (by decide))
  refine lv_iload_n hx hb d_PM_glue_32 rfl (lv_at hl 3 rfl) ?_
  refine lv_if_lt (tgt := 41) hx hb d_PM_glue_33 (by decide) (fun c0 => absurd c0 (i32_nlt hv3)) (fun _ => ?_)
  refine lv_iload_n hx hb d_PM_glue_36 rfl (lv_at hl 3 rfl) ?_
  refine lv_iconst (v := 4) hx hb d_PM_glue_37 (by decide) ?_
  refine lv_icmp_lt (tgt := 51) hx hb d_PM_glue_38 (by decide) (fun _ => ?_) (fun c0 => absurd hv4 c0)
  refine lv_aload_n hx hb d_PM_glue_51 rfl (lv_at hl 0 rfl) ?_
  refine pz_cv (va_runV (As := []) (rest := []) ⟨hx, hb, hml, hown, hts⟩ (c_PM_needRoom l G L f _ pm al ad el ed fr op to sa fo xs ys its F9 pgs F P T hR hn5) (cwV 0 hts (tb_V tw_278 tw_280 tp_1 tw_1 tw_281) rfl rfl rfl (by decide +kernel) ⟨(Nat.le_of_ble_eq_true rfl), (Nat.le_of_ble_eq_true rfl)⟩) (pz_preV (zz_ok _ _ _) hK hP hD hS hA hz (ci := 4) rfl rfl hp hfp) rfl rfl hl.1 rfl (lv_room (Nat.le_of_ble_eq_true rfl)) d_PM_glue_52 ⟨(Nat.zero_le _), (Nat.zero_le _)⟩) hP hD hS hA (fun L8 f8 H locs hw hP hD hS => ?_)
  have eL8 : L8 = L := (Prod.mk.inj hw).1
  have ef8 : f8 = f := (Prod.mk.inj hw).2
  subst L8
  subst f8
  refine lv_aload_n hx hb d_PM_glue_55 rfl (lv_at hl 0 rfl) ?_
  refine pz_new (ci := 6) (fs := [.int 0, .int 0, .int 0, .int 0]) (C := "PageMaker$Glue") (T := T_GL) (N := 4) hx hb htb in_GL ty_GL to_GL hown (htb _ tw_440) (htb _ tw_549) (htb _ tw_23) hK hP hD hS hA rfl (fun j hj => by rcases (show j = 0 ∨ j = 1 ∨ j = 2 ∨ j = 3 by omega) with rfl | rfl | rfl | rfl <;> rfl) (Nat.le_add_right _ _) (Nat.le_add_right _ _) d_PM_glue_56 (fun q4 L5 f6 H hnq4 eL5 ef6 hP hD hS => ?_)
  subst L5
  refine lv_dup hx hb d_PM_glue_59 rfl ?_
  refine lv_iload_n hx hb d_PM_glue_60 rfl (lv_at hl 1 rfl) ?_
  refine lv_iload_n hx hb d_PM_glue_61 rfl (lv_at hl 2 rfl) ?_
  refine lv_iload_n hx hb d_PM_glue_62 rfl (lv_at hl 3 rfl) ?_
  refine lv_iload hx hb d_PM_glue_63 (lv_at hl 4 rfl) ?_
  have h_7 : f6 q4 = .inr (6, [.int 0, .int 0, .int 0, .int 0]) := by rw [ef6]; exact va_up_self _ _ _
  refine pz_cv (va_runI (As := [.int wd, .int st, .int od, .int sh]) (rest := [.ref q4, .ref pm]) ⟨hx, hb, hml, hown, hts⟩ (c_GL_init l G (L ++ [q4]) f6 _ q4 0 0 0 0 wd st od sh (l_in_new _ _) h_7) (cwI 4 hts (tb_good tw_552) rfl rfl rfl (htb _ tw_23) (htb _ tw_550) (htb _ tw_551) rfl (by decide +kernel) ⟨(Nat.le_of_ble_eq_true rfl), (Nat.le_of_ble_eq_true rfl)⟩) (pz_pre (zz_ok _ _ _) hK hP hD hS hA hz) rfl rfl hl.1 rfl (lv_room (Nat.le_of_ble_eq_true rfl)) d_PM_glue_65 ⟨(Nat.le_add_right _ _), (Nat.le_add_right _ _)⟩) hP hD hS hA (fun L9 f8 H locs hw hP hD hS => ?_)
  have ef8 : f8 = va_up (f6) q4 (.inr (6, [.int wd, .int st, .int od, .int sh])) := (Prod.mk.inj hw).2
  have eL9 : L9 = (L ++ [q4]) := (Prod.mk.inj hw).1
  subst L9
  have hR2 : RX G (L ++ [q4]) f8 pm al ad el ed fr op to sa fo xs ys (its, F9, pgs, F, P, T) := rx_grow hR hnq4 (fun z z1 => by rw [ef8, va_up_ne _ _ z1, ef6, va_up_ne _ _ z1])
  have hq2 : f8 q4 = itE (.inr (.inl (wd, st, od, sh))) := by rw [ef8]; exact va_up_self _ _ _
  have h_11 : f6 pm = .inr (4, [.ref al, .ref el, .ref fr, .ref op]) := by rw [ef6, va_up_ne _ _ (Ne.symm (pz_nef hnq4 hp))]; exact hfp
  have h_10 : f8 pm = .inr (4, [.ref al, .ref el, .ref fr, .ref op]) := by rw [ef8, va_up_ne _ _ (Ne.symm (pz_nef hnq4 hp))]; exact h_11
  refine pz_ci (va_runV (As := [.ref q4]) (rest := []) ⟨hx, hb, hml, hown, hts⟩ (c_PM_comeIn l G (L ++ [q4]) f8 _ pm al ad el ed fr op to sa fo xs ys its F9 pgs F P T q4 (.inr (.inl (wd, st, od, sh))) hR2 (l_in_new _ _) hq2 (vp_in4 hv3 hv4) hn5 hpg hok9) (cwV 1 hts (tb_V tw_316 tw_318 tp_2 tw_1 tw_319) rfl rfl rfl (by decide +kernel) ⟨(Nat.le_of_ble_eq_true rfl), (Nat.le_of_ble_eq_true rfl)⟩) (pz_preV (zz_ok _ _ _) hK hP hD hS hA hz (ci := 4) rfl rfl (List.mem_append_left _ hp) h_10) rfl rfl hl.1 rfl (lv_room (Nat.le_of_ble_eq_true rfl)) d_PM_glue_68 ⟨(Nat.le_refl _), (Nat.le_refl _)⟩) hP hD hS hA (fun r9 L9 f9 H locs hw hP hD hS => ?_)
  obtain ⟨er9, ad1, ed1, op1, to1, sa1, fo1, ys1, hR9⟩ := hw
  exact pz_iret hx hb hr rfl hlocks hK hP hD hS (Nat.le_refl _) (Nat.le_refl _) ⟨er9, ad1, ed1, op1, to1, sa1, fo1, _, ys1, hR9⟩ d_PM_glue_71
set_option maxHeartbeats 4000000 in
set_option maxRecDepth 100000 in
/-- glue throws -/
theorem x_PM_glue (l : Launch) (hl9 : l.stackTraces = false) (G : gG) (L : List Nat) (f : Nat → va_E) (sz : Nat) (pm : Nat) (wd st od sh : Int32) (hno : ¬ (k_isS wd ∧ k_isZ st ∧ k_isZ sh ∧ 0 ≤ od ∧ od < 4)) : mX l y_PM_glue w_PM_glue ({ frames := 6, cells := 1, slots := 6, locals := 82 }) G L f sz [.ref pm, .int wd, .int st, .int od, .int sh] "java/lang/IllegalArgumentException" := by
  refine pz_metX (cc := prog_1_method_4_code) (maxL := 5) (ret := (some .int)) (by decide) rfl (Nat.le_of_ble_eq_true rfl) ?_
  intro p e s m below meth c ls hx hb hr hml hts hown hlocks hnt hsz hK hP hD hS hA hz hl
  have htb : ∀ w ∈ TB, w.before _ s = true := fun w h => hts w (List.mem_cons_of_mem _ h)
  have hl : lv_has ls 5 [(0, .ref pm), (1, .int wd), (2, .int st), (3, .int od), (4, .int sh)] := hl
  refine lv_iload_n hx hb d_PM_glue_0 rfl (lv_at hl 1 rfl) ?_
  refine vp_callSi (va_Run.run (va_runS (As := [.int wd]) (rest := []) ⟨hx, hb, hml, hown, hts⟩ (c_PM_isSize l wd) (cwS 1 hts (tb_S tw_197 tw_198 tw_1 tw_199) rfl rfl rfl (by decide +kernel) ⟨(Nat.le_of_ble_eq_true rfl), (Nat.le_of_ble_eq_true rfl)⟩) pz_preP rfl rfl hl.1 rfl (lv_room (Nat.le_of_ble_eq_true rfl)) d_PM_glue_1 ⟨(Nat.le_of_ble_eq_true rfl), (Nat.le_of_ble_eq_true rfl)⟩)) (fun r1 hw => ?_)
  rcases (show k_b (k_isS wd) r1 from hw) with ⟨rfl, hq2⟩ | ⟨rfl, hq2⟩
  · refine lv_if_eq (tgt := 22) hx hb d_PM_glue_4 (by decide) (fun c0 => absurd c0 (by decide)) (fun _ => ?_)
    refine lv_iload_n hx hb d_PM_glue_7 rfl (lv_at hl 2 rfl) ?_
    refine vp_callSi (va_Run.run (va_runS (As := [.int st]) (rest := []) ⟨hx, hb, hml, hown, hts⟩ (c_PM_isSizeFromZero l st) (cwS 1 hts (tb_S tw_193 tw_194 tw_1 tw_195) rfl rfl rfl (by decide +kernel) ⟨(Nat.le_of_ble_eq_true rfl), (Nat.le_of_ble_eq_true rfl)⟩) pz_preP rfl rfl hl.1 rfl (lv_room (Nat.le_of_ble_eq_true rfl)) d_PM_glue_8 ⟨(Nat.le_of_ble_eq_true rfl), (Nat.le_of_ble_eq_true rfl)⟩)) (fun r3 hw => ?_)
    rcases (show k_b (k_isZ st) r3 from hw) with ⟨rfl, hq4⟩ | ⟨rfl, hq4⟩
    · refine lv_if_eq (tgt := 22) hx hb d_PM_glue_11 (by decide) (fun c0 => absurd c0 (by decide)) (fun _ => ?_)
      refine lv_iload hx hb d_PM_glue_14 (lv_at hl 4 rfl) ?_
      refine vp_callSi (va_Run.run (va_runS (As := [.int sh]) (rest := []) ⟨hx, hb, hml, hown, hts⟩ (c_PM_isSizeFromZero l sh) (cwS 1 hts (tb_S tw_193 tw_194 tw_1 tw_195) rfl rfl rfl (by decide +kernel) ⟨(Nat.le_of_ble_eq_true rfl), (Nat.le_of_ble_eq_true rfl)⟩) pz_preP rfl rfl hl.1 rfl (lv_room (Nat.le_of_ble_eq_true rfl)) d_PM_glue_16 ⟨(Nat.le_of_ble_eq_true rfl), (Nat.le_of_ble_eq_true rfl)⟩)) (fun r5 hw => ?_)
      rcases (show k_b (k_isZ sh) r5 from hw) with ⟨rfl, hq6⟩ | ⟨rfl, hq6⟩
      · refine lv_if_ne (tgt := 32) hx hb d_PM_glue_19 (by decide) (fun _ => ?_) (fun c0 => absurd c0 (by decide))
        refine lv_iload_n hx hb d_PM_glue_32 rfl (lv_at hl 3 rfl) ?_
        refine lv_if_lt (tgt := 41) hx hb d_PM_glue_33 (by decide) (fun c_7 => ?_) (fun c_7 => ?_)
        · exact pz_thr 70 "the order of glue is 0 to 3" 47 51 hx hb hl9 hown (by decide +kernel) htb hz hnt hlocks hK hP hD hS tw_201 tw_12 at_IAE1 at_IAE2 at_IAE3 (by decide +kernel) hml hl.1 d_PM_glue_41 d_PM_glue_44 d_PM_glue_45 d_PM_glue_47 d_PM_glue_50 (Nat.le_of_ble_eq_true rfl) (Nat.le_of_ble_eq_true rfl) (Nat.le_of_ble_eq_true rfl) (Nat.le_of_ble_eq_true rfl) (Nat.le_of_ble_eq_true rfl) (Nat.le_of_ble_eq_true rfl)
        · refine lv_iload_n hx hb d_PM_glue_36 rfl (lv_at hl 3 rfl) ?_
          refine lv_iconst (v := 4) hx hb d_PM_glue_37 (by decide) ?_
          refine lv_icmp_lt (tgt := 51) hx hb d_PM_glue_38 (by decide) (fun c_8 => ?_) (fun c_8 => ?_)
          · exact absurd ⟨hq2, hq4, hq6, (i32_le c_7), c_8⟩ hno
          · exact pz_thr 70 "the order of glue is 0 to 3" 47 51 hx hb hl9 hown (by decide +kernel) htb hz hnt hlocks hK hP hD hS tw_201 tw_12 at_IAE1 at_IAE2 at_IAE3 (by decide +kernel) hml hl.1 d_PM_glue_41 d_PM_glue_44 d_PM_glue_45 d_PM_glue_47 d_PM_glue_50 (Nat.le_of_ble_eq_true rfl) (Nat.le_of_ble_eq_true rfl) (Nat.le_of_ble_eq_true rfl) (Nat.le_of_ble_eq_true rfl) (Nat.le_of_ble_eq_true rfl) (Nat.le_of_ble_eq_true rfl)
      · refine lv_if_ne (tgt := 32) hx hb d_PM_glue_19 (by decide) (fun c0 => absurd c0 (by decide)) (fun _ => ?_)
        exact pz_thr 68 "glue needs sizes, its stretch and shrink not below 0" 47 51 hx hb hl9 hown (by decide +kernel) htb hz hnt hlocks hK hP hD hS tw_201 tw_12 at_IAE1 at_IAE2 at_IAE3 (by decide +kernel) hml hl.1 d_PM_glue_22 d_PM_glue_25 d_PM_glue_26 d_PM_glue_28 d_PM_glue_31 (Nat.le_of_ble_eq_true rfl) (Nat.le_of_ble_eq_true rfl) (Nat.le_of_ble_eq_true rfl) (Nat.le_of_ble_eq_true rfl) (Nat.le_of_ble_eq_true rfl) (Nat.le_of_ble_eq_true rfl)
    · refine lv_if_eq (tgt := 22) hx hb d_PM_glue_11 (by decide) (fun _ => ?_) (fun c0 => absurd c0 (by decide))
      exact pz_thr 68 "glue needs sizes, its stretch and shrink not below 0" 47 51 hx hb hl9 hown (by decide +kernel) htb hz hnt hlocks hK hP hD hS tw_201 tw_12 at_IAE1 at_IAE2 at_IAE3 (by decide +kernel) hml hl.1 d_PM_glue_22 d_PM_glue_25 d_PM_glue_26 d_PM_glue_28 d_PM_glue_31 (Nat.le_of_ble_eq_true rfl) (Nat.le_of_ble_eq_true rfl) (Nat.le_of_ble_eq_true rfl) (Nat.le_of_ble_eq_true rfl) (Nat.le_of_ble_eq_true rfl) (Nat.le_of_ble_eq_true rfl)
  · refine lv_if_eq (tgt := 22) hx hb d_PM_glue_4 (by decide) (fun _ => ?_) (fun c0 => absurd c0 (by decide))
    exact pz_thr 68 "glue needs sizes, its stretch and shrink not below 0" 47 51 hx hb hl9 hown (by decide +kernel) htb hz hnt hlocks hK hP hD hS tw_201 tw_12 at_IAE1 at_IAE2 at_IAE3 (by decide +kernel) hml hl.1 d_PM_glue_22 d_PM_glue_25 d_PM_glue_26 d_PM_glue_28 d_PM_glue_31 (Nat.le_of_ble_eq_true rfl) (Nat.le_of_ble_eq_true rfl) (Nat.le_of_ble_eq_true rfl) (Nat.le_of_ble_eq_true rfl) (Nat.le_of_ble_eq_true rfl) (Nat.le_of_ble_eq_true rfl)
set_option maxHeartbeats 4000000 in
set_option maxRecDepth 100000 in
/-- kern, the numbers right -/
theorem c_PM_kern (l : Launch) (G : gG) (L : List Nat) (f : Nat → va_E) (sz : Nat) (pm al ad el ed fr op to sa fo : Nat) (xs ys : List Nat) (its : List It) (F9 : Fr) (pgs : List (Fr × Pg)) (F : Fr) (P : Op) (T : Tt) (wd : Int32) (hR : RX G L f pm al ad el ed fr op to sa fo xs ys (its, F9, pgs, F, P, T)) (hv0 : k_isS wd) (hn5 : its.length < 512) (hpg : pgs.length ≤ 512) (hok9 : c_ok 4004001 (its ++ [.inr (.inr (.inl wd))], F9, pgs, F, P, T) its.length) : mI l y_PM_kern w_PM_kern ({ frames := 10, cells := 1 + (1 + 7 * ((c_run 4004001 (its ++ [.inr (.inr (.inl wd))], F9, pgs, F, P, T) its.length).1.2.2.1.length - pgs.length)), slots := 1 + (900 + 933 * ((c_run 4004001 (its ++ [.inr (.inr (.inl wd))], F9, pgs, F, P, T) its.length).1.2.2.1.length - pgs.length)), locals := 237 }) G L f sz [.ref pm, .int wd] (1 + (1 + 7 * ((c_run 4004001 (its ++ [.inr (.inr (.inl wd))], F9, pgs, F, P, T) its.length).1.2.2.1.length - pgs.length))) (1 + (900 + 933 * ((c_run 4004001 (its ++ [.inr (.inr (.inl wd))], F9, pgs, F, P, T) its.length).1.2.2.1.length - pgs.length))) (fun r u => r = nI (c_run 4004001 (its ++ [.inr (.inr (.inl wd))], F9, pgs, F, P, T) its.length).1.2.2.1.length ∧ ∃ ad1 ed1 op1 to1 sa1 fo1 xs1 ys1, RX G u.1 u.2 pm al ad1 el ed1 fr op1 to1 sa1 fo1 xs1 ys1 (c_run 4004001 (its ++ [.inr (.inr (.inl wd))], F9, pgs, F, P, T) its.length).1) := by
  refine pz_met (cc := prog_1_method_5_code) (maxL := 2) (ret := (some .int)) (by decide) rfl (Nat.le_of_ble_eq_true rfl) ?_
  intro p e s m below meth c ls hx hb hr hml hts hown hlocks hin hsz hK hP hD hS hA hz hl
  have htb : ∀ w ∈ TB, w.before _ s = true := fun w h => hts w (List.mem_cons_of_mem _ h)
  have hl : lv_has ls 2 [(0, .ref pm), (1, .int wd)] := hl
  obtain ⟨hp, hfp, h_al, h_el, hne9, hdd, hX, hY, hr9, hfr, ho, hfo, ht, hft, hs9, hsa, hr8, hfof⟩ := id hR
  have hX : XR L f xs its := hX
  have hY : YR L f ys pgs := hY
  have hfr : f fr = frE F9 := hfr
  have hfo : f op = opE to fo P := hfo
  have hft : f to = toE sa T := hft
  have hsa : f sa = saE G T := hsa
  have hfof : f fo = frE F := hfof
  obtain ⟨mo_al, hm_al, hc_al, -⟩ := id h_al
  refine lv_iload_n hx hb d_PM_kern_0 rfl (lv_at hl 1 rfl) ?_
  refine vp_callSi (va_Run.run (va_runS (As := [.int wd]) (rest := []) ⟨hx, hb, hml, hown, hts⟩ (c_PM_isSize l wd) (cwS 1 hts (tb_S tw_197 tw_198 tw_1 tw_199) rfl rfl rfl (by decide +kernel) ⟨(Nat.le_of_ble_eq_true rfl), (Nat.le_of_ble_eq_true rfl)⟩) pz_preP rfl rfl hl.1 rfl (lv_room (Nat.le_of_ble_eq_true rfl)) d_PM_kern_1 ⟨(Nat.zero_le _), (Nat.zero_le _)⟩)) (fun r1 hw => ?_)
  have hw : r1 = 1 := k_by (show k_b (k_isS wd) r1 from hw) hv0
  subst hw
  refine lv_if_ne (tgt := 17) hx hb d_PM_kern_4 (by decide) (fun _ => ?_) (fun c0 => absurd c0 (by decide))
  refine lv_aload_n hx hb d_PM_kern_17 rfl (lv_at hl 0 rfl) ?_
  refine pz_cv (va_runV (As := []) (rest := []) ⟨hx, hb, hml, hown, hts⟩ (c_PM_needRoom l G L f _ pm al ad el ed fr op to sa fo xs ys its F9 pgs F P T hR hn5) (cwV 0 hts (tb_V tw_278 tw_280 tp_1 tw_1 tw_281) rfl rfl rfl (by decide +kernel) ⟨(Nat.le_of_ble_eq_true rfl), (Nat.le_of_ble_eq_true rfl)⟩) (pz_preV (zz_ok _ _ _) hK hP hD hS hA hz (ci := 4) rfl rfl hp hfp) rfl rfl hl.1 rfl (lv_room (Nat.le_of_ble_eq_true rfl)) d_PM_kern_18 ⟨(Nat.zero_le _), (Nat.zero_le _)⟩) hP hD hS hA (fun L8 f8 H locs hw hP hD hS => ?_)
  have eL8 : L8 = L := (Prod.mk.inj hw).1
  have ef8 : f8 = f := (Prod.mk.inj hw).2
  subst L8
  subst f8
  refine lv_aload_n hx hb d_PM_kern_21 rfl (lv_at hl 0 rfl) ?_
  refine pz_new (ci := 7) (fs := [.int 0]) (C := "PageMaker$Kern") (T := T_KE) (N := 1) hx hb htb in_KE ty_KE to_KE hown (htb _ tw_441) (htb _ tw_575) (htb _ tw_24) hK hP hD hS hA rfl (fun j hj => by rcases (show j = 0 by omega) with rfl <;> rfl) (Nat.le_add_right _ _) (Nat.le_add_right _ _) d_PM_kern_22 (fun q2 L3 f4 H hnq2 eL3 ef4 hP hD hS => ?_)
  subst L3
  refine lv_dup hx hb d_PM_kern_25 rfl ?_
  refine lv_iload_n hx hb d_PM_kern_26 rfl (lv_at hl 1 rfl) ?_
  have h_5 : f4 q2 = .inr (7, [.int 0]) := by rw [ef4]; exact va_up_self _ _ _
  refine pz_cv (va_runI (As := [.int wd]) (rest := [.ref q2, .ref pm]) ⟨hx, hb, hml, hown, hts⟩ (c_KE_init l G (L ++ [q2]) f4 _ q2 0 wd (l_in_new _ _) h_5) (cwI 1 hts (tb_good tw_578) rfl rfl rfl (htb _ tw_24) (htb _ tw_576) (htb _ tw_577) rfl (by decide +kernel) ⟨(Nat.le_of_ble_eq_true rfl), (Nat.le_of_ble_eq_true rfl)⟩) (pz_pre (zz_ok _ _ _) hK hP hD hS hA hz) rfl rfl hl.1 rfl (lv_room (Nat.le_of_ble_eq_true rfl)) d_PM_kern_27 ⟨(Nat.le_add_right _ _), (Nat.le_add_right _ _)⟩) hP hD hS hA (fun L7 f6 H locs hw hP hD hS => ?_)
  have ef6 : f6 = va_up (f4) q2 (.inr (7, [.int wd])) := (Prod.mk.inj hw).2
  have eL7 : L7 = (L ++ [q2]) := (Prod.mk.inj hw).1
  subst L7
  have hR2 : RX G (L ++ [q2]) f6 pm al ad el ed fr op to sa fo xs ys (its, F9, pgs, F, P, T) := rx_grow hR hnq2 (fun z z1 => by rw [ef6, va_up_ne _ _ z1, ef4, va_up_ne _ _ z1])
  have hq2 : f6 q2 = itE (.inr (.inr (.inl wd))) := by rw [ef6]; exact va_up_self _ _ _
  have h_9 : f4 pm = .inr (4, [.ref al, .ref el, .ref fr, .ref op]) := by rw [ef4, va_up_ne _ _ (Ne.symm (pz_nef hnq2 hp))]; exact hfp
  have h_8 : f6 pm = .inr (4, [.ref al, .ref el, .ref fr, .ref op]) := by rw [ef6, va_up_ne _ _ (Ne.symm (pz_nef hnq2 hp))]; exact h_9
  refine pz_ci (va_runV (As := [.ref q2]) (rest := []) ⟨hx, hb, hml, hown, hts⟩ (c_PM_comeIn l G (L ++ [q2]) f6 _ pm al ad el ed fr op to sa fo xs ys its F9 pgs F P T q2 (.inr (.inr (.inl wd))) hR2 (l_in_new _ _) hq2 trivial hn5 hpg hok9) (cwV 1 hts (tb_V tw_316 tw_318 tp_2 tw_1 tw_319) rfl rfl rfl (by decide +kernel) ⟨(Nat.le_of_ble_eq_true rfl), (Nat.le_of_ble_eq_true rfl)⟩) (pz_preV (zz_ok _ _ _) hK hP hD hS hA hz (ci := 4) rfl rfl (List.mem_append_left _ hp) h_8) rfl rfl hl.1 rfl (lv_room (Nat.le_of_ble_eq_true rfl)) d_PM_kern_30 ⟨(Nat.le_refl _), (Nat.le_refl _)⟩) hP hD hS hA (fun r9 L9 f9 H locs hw hP hD hS => ?_)
  obtain ⟨er9, ad1, ed1, op1, to1, sa1, fo1, ys1, hR9⟩ := hw
  exact pz_iret hx hb hr rfl hlocks hK hP hD hS (Nat.le_refl _) (Nat.le_refl _) ⟨er9, ad1, ed1, op1, to1, sa1, fo1, _, ys1, hR9⟩ d_PM_kern_33
set_option maxHeartbeats 4000000 in
set_option maxRecDepth 100000 in
/-- kern throws -/
theorem x_PM_kern (l : Launch) (hl9 : l.stackTraces = false) (G : gG) (L : List Nat) (f : Nat → va_E) (sz : Nat) (pm : Nat) (wd : Int32) (hno : ¬ (k_isS wd)) : mX l y_PM_kern w_PM_kern ({ frames := 6, cells := 1, slots := 6, locals := 82 }) G L f sz [.ref pm, .int wd] "java/lang/IllegalArgumentException" := by
  refine pz_metX (cc := prog_1_method_5_code) (maxL := 2) (ret := (some .int)) (by decide) rfl (Nat.le_of_ble_eq_true rfl) ?_
  intro p e s m below meth c ls hx hb hr hml hts hown hlocks hnt hsz hK hP hD hS hA hz hl
  have htb : ∀ w ∈ TB, w.before _ s = true := fun w h => hts w (List.mem_cons_of_mem _ h)
  have hl : lv_has ls 2 [(0, .ref pm), (1, .int wd)] := hl
  refine lv_iload_n hx hb d_PM_kern_0 rfl (lv_at hl 1 rfl) ?_
  refine vp_callSi (va_Run.run (va_runS (As := [.int wd]) (rest := []) ⟨hx, hb, hml, hown, hts⟩ (c_PM_isSize l wd) (cwS 1 hts (tb_S tw_197 tw_198 tw_1 tw_199) rfl rfl rfl (by decide +kernel) ⟨(Nat.le_of_ble_eq_true rfl), (Nat.le_of_ble_eq_true rfl)⟩) pz_preP rfl rfl hl.1 rfl (lv_room (Nat.le_of_ble_eq_true rfl)) d_PM_kern_1 ⟨(Nat.le_of_ble_eq_true rfl), (Nat.le_of_ble_eq_true rfl)⟩)) (fun r1 hw => ?_)
  rcases (show k_b (k_isS wd) r1 from hw) with ⟨rfl, hq2⟩ | ⟨rfl, hq2⟩
  · exact absurd hq2 hno
  · refine lv_if_ne (tgt := 17) hx hb d_PM_kern_4 (by decide) (fun c0 => absurd c0 (by decide)) (fun _ => ?_)
    exact pz_thr 77 "a kern needs a size" 47 51 hx hb hl9 hown (by decide +kernel) htb hz hnt hlocks hK hP hD hS tw_201 tw_12 at_IAE1 at_IAE2 at_IAE3 (by decide +kernel) hml hl.1 d_PM_kern_7 d_PM_kern_10 d_PM_kern_11 d_PM_kern_13 d_PM_kern_16 (Nat.le_of_ble_eq_true rfl) (Nat.le_of_ble_eq_true rfl) (Nat.le_of_ble_eq_true rfl) (Nat.le_of_ble_eq_true rfl) (Nat.le_of_ble_eq_true rfl) (Nat.le_of_ble_eq_true rfl)
set_option maxHeartbeats 4000000 in
set_option maxRecDepth 100000 in
/-- penalty, the numbers right -/
theorem c_PM_penalty (l : Launch) (G : gG) (L : List Nat) (f : Nat → va_E) (sz : Nat) (pm al ad el ed fr op to sa fo : Nat) (xs ys : List Nat) (its : List It) (F9 : Fr) (pgs : List (Fr × Pg)) (F : Fr) (P : Op) (T : Tt) (pp : Int32) (hR : RX G L f pm al ad el ed fr op to sa fo xs ys (its, F9, pgs, F, P, T)) (hv0 : (-100000) ≤ pp) (hv1 : pp ≤ 100000) (hn5 : its.length < 512) (hpg : pgs.length ≤ 512) (hok9 : c_ok 4004001 (its ++ [.inr (.inr (.inr pp))], F9, pgs, F, P, T) its.length) : mI l y_PM_penalty w_PM_penalty ({ frames := 10, cells := 1 + (1 + 7 * ((c_run 4004001 (its ++ [.inr (.inr (.inr pp))], F9, pgs, F, P, T) its.length).1.2.2.1.length - pgs.length)), slots := 1 + (900 + 933 * ((c_run 4004001 (its ++ [.inr (.inr (.inr pp))], F9, pgs, F, P, T) its.length).1.2.2.1.length - pgs.length)), locals := 237 }) G L f sz [.ref pm, .int pp] (1 + (1 + 7 * ((c_run 4004001 (its ++ [.inr (.inr (.inr pp))], F9, pgs, F, P, T) its.length).1.2.2.1.length - pgs.length))) (1 + (900 + 933 * ((c_run 4004001 (its ++ [.inr (.inr (.inr pp))], F9, pgs, F, P, T) its.length).1.2.2.1.length - pgs.length))) (fun r u => r = nI (c_run 4004001 (its ++ [.inr (.inr (.inr pp))], F9, pgs, F, P, T) its.length).1.2.2.1.length ∧ ∃ ad1 ed1 op1 to1 sa1 fo1 xs1 ys1, RX G u.1 u.2 pm al ad1 el ed1 fr op1 to1 sa1 fo1 xs1 ys1 (c_run 4004001 (its ++ [.inr (.inr (.inr pp))], F9, pgs, F, P, T) its.length).1) := by
  refine pz_met (cc := prog_1_method_6_code) (maxL := 2) (ret := (some .int)) (by decide) rfl (Nat.le_of_ble_eq_true rfl) ?_
  intro p e s m below meth c ls hx hb hr hml hts hown hlocks hin hsz hK hP hD hS hA hz hl
  have htb : ∀ w ∈ TB, w.before _ s = true := fun w h => hts w (List.mem_cons_of_mem _ h)
  have hl : lv_has ls 2 [(0, .ref pm), (1, .int pp)] := hl
  obtain ⟨hp, hfp, h_al, h_el, hne9, hdd, hX, hY, hr9, hfr, ho, hfo, ht, hft, hs9, hsa, hr8, hfof⟩ := id hR
  have hX : XR L f xs its := hX
  have hY : YR L f ys pgs := hY
  have hfr : f fr = frE F9 := hfr
  have hfo : f op = opE to fo P := hfo
  have hft : f to = toE sa T := hft
  have hsa : f sa = saE G T := hsa
  have hfof : f fo = frE F := hfof
  obtain ⟨mo_al, hm_al, hc_al, -⟩ := id h_al
  refine lv_iload_n hx hb d_PM_penalty_0 rfl (lv_at hl 1 rfl) ?_
  refine lv_ldc (v := (-100000)) hx hb hown (htb _ tw_591) d_PM_penalty_1 ?_
  refine lv_icmp_lt (tgt := 12) hx hb d_PM_penalty_3 (by decide) (fun c0 => absurd c0 (i32_nlt hv0)) (fun _ => ?_)
  refine lv_iload_n hx hb d_PM_penalty_6 rfl (lv_at hl 1 rfl) ?_
  refine lv_ldc (v := 100000) hx hb hown (htb _ tw_439) d_PM_penalty_7 ?_
  refine lv_icmp_le (tgt := 22) hx hb d_PM_penalty_9 (by decide) (fun _ => ?_) (fun c0 => absurd hv1 c0)
  refine lv_aload_n hx hb d_PM_penalty_22 rfl (lv_at hl 0 rfl) ?_
  refine pz_cv (va_runV (As := []) (rest := []) ⟨hx, hb, hml, hown, hts⟩ (c_PM_needRoom l G L f _ pm al ad el ed fr op to sa fo xs ys its F9 pgs F P T hR hn5) (cwV 0 hts (tb_V tw_278 tw_280 tp_1 tw_1 tw_281) rfl rfl rfl (by decide +kernel) ⟨(Nat.le_of_ble_eq_true rfl), (Nat.le_of_ble_eq_true rfl)⟩) (pz_preV (zz_ok _ _ _) hK hP hD hS hA hz (ci := 4) rfl rfl hp hfp) rfl rfl hl.1 rfl (lv_room (Nat.le_of_ble_eq_true rfl)) d_PM_penalty_23 ⟨(Nat.zero_le _), (Nat.zero_le _)⟩) hP hD hS hA (fun L8 f8 H locs hw hP hD hS => ?_)
  have eL8 : L8 = L := (Prod.mk.inj hw).1
  have ef8 : f8 = f := (Prod.mk.inj hw).2
  subst L8
  subst f8
  refine lv_aload_n hx hb d_PM_penalty_26 rfl (lv_at hl 0 rfl) ?_
  refine pz_new (ci := 8) (fs := [.int 0]) (C := "PageMaker$Penalty") (T := T_PE) (N := 1) hx hb htb in_PE ty_PE to_PE hown (htb _ tw_413) (htb _ tw_593) (htb _ tw_25) hK hP hD hS hA rfl (fun j hj => by rcases (show j = 0 by omega) with rfl <;> rfl) (Nat.le_add_right _ _) (Nat.le_add_right _ _) d_PM_penalty_27 (fun q1 L2 f3 H hnq1 eL2 ef3 hP hD hS => ?_)
  subst L2
  refine lv_dup hx hb d_PM_penalty_30 rfl ?_
  refine lv_iload_n hx hb d_PM_penalty_31 rfl (lv_at hl 1 rfl) ?_
  have h_4 : f3 q1 = .inr (8, [.int 0]) := by rw [ef3]; exact va_up_self _ _ _
  refine pz_cv (va_runI (As := [.int pp]) (rest := [.ref q1, .ref pm]) ⟨hx, hb, hml, hown, hts⟩ (c_PE_init l G (L ++ [q1]) f3 _ q1 0 pp (l_in_new _ _) h_4) (cwI 1 hts (tb_good tw_596) rfl rfl rfl (htb _ tw_25) (htb _ tw_594) (htb _ tw_595) rfl (by decide +kernel) ⟨(Nat.le_of_ble_eq_true rfl), (Nat.le_of_ble_eq_true rfl)⟩) (pz_pre (zz_ok _ _ _) hK hP hD hS hA hz) rfl rfl hl.1 rfl (lv_room (Nat.le_of_ble_eq_true rfl)) d_PM_penalty_32 ⟨(Nat.le_add_right _ _), (Nat.le_add_right _ _)⟩) hP hD hS hA (fun L6 f5 H locs hw hP hD hS => ?_)
  have ef5 : f5 = va_up (f3) q1 (.inr (8, [.int pp])) := (Prod.mk.inj hw).2
  have eL6 : L6 = (L ++ [q1]) := (Prod.mk.inj hw).1
  subst L6
  have hR2 : RX G (L ++ [q1]) f5 pm al ad el ed fr op to sa fo xs ys (its, F9, pgs, F, P, T) := rx_grow hR hnq1 (fun z z1 => by rw [ef5, va_up_ne _ _ z1, ef3, va_up_ne _ _ z1])
  have hq2 : f5 q1 = itE (.inr (.inr (.inr pp))) := by rw [ef5]; exact va_up_self _ _ _
  have h_8 : f3 pm = .inr (4, [.ref al, .ref el, .ref fr, .ref op]) := by rw [ef3, va_up_ne _ _ (Ne.symm (pz_nef hnq1 hp))]; exact hfp
  have h_7 : f5 pm = .inr (4, [.ref al, .ref el, .ref fr, .ref op]) := by rw [ef5, va_up_ne _ _ (Ne.symm (pz_nef hnq1 hp))]; exact h_8
  refine pz_ci (va_runV (As := [.ref q1]) (rest := []) ⟨hx, hb, hml, hown, hts⟩ (c_PM_comeIn l G (L ++ [q1]) f5 _ pm al ad el ed fr op to sa fo xs ys its F9 pgs F P T q1 (.inr (.inr (.inr pp))) hR2 (l_in_new _ _) hq2 trivial hn5 hpg hok9) (cwV 1 hts (tb_V tw_316 tw_318 tp_2 tw_1 tw_319) rfl rfl rfl (by decide +kernel) ⟨(Nat.le_of_ble_eq_true rfl), (Nat.le_of_ble_eq_true rfl)⟩) (pz_preV (zz_ok _ _ _) hK hP hD hS hA hz (ci := 4) rfl rfl (List.mem_append_left _ hp) h_7) rfl rfl hl.1 rfl (lv_room (Nat.le_of_ble_eq_true rfl)) d_PM_penalty_35 ⟨(Nat.le_refl _), (Nat.le_refl _)⟩) hP hD hS hA (fun r9 L9 f9 H locs hw hP hD hS => ?_)
  obtain ⟨er9, ad1, ed1, op1, to1, sa1, fo1, ys1, hR9⟩ := hw
  exact pz_iret hx hb hr rfl hlocks hK hP hD hS (Nat.le_refl _) (Nat.le_refl _) ⟨er9, ad1, ed1, op1, to1, sa1, fo1, _, ys1, hR9⟩ d_PM_penalty_38
set_option maxHeartbeats 4000000 in
set_option maxRecDepth 100000 in
/-- penalty throws -/
theorem x_PM_penalty (l : Launch) (hl9 : l.stackTraces = false) (G : gG) (L : List Nat) (f : Nat → va_E) (sz : Nat) (pm : Nat) (pp : Int32) (hno : ¬ ((-100000) ≤ pp ∧ pp ≤ 100000)) : mX l y_PM_penalty w_PM_penalty ({ frames := 6, cells := 1, slots := 6, locals := 82 }) G L f sz [.ref pm, .int pp] "java/lang/IllegalArgumentException" := by
  refine pz_metX (cc := prog_1_method_6_code) (maxL := 2) (ret := (some .int)) (by decide) rfl (Nat.le_of_ble_eq_true rfl) ?_
  intro p e s m below meth c ls hx hb hr hml hts hown hlocks hnt hsz hK hP hD hS hA hz hl
  have htb : ∀ w ∈ TB, w.before _ s = true := fun w h => hts w (List.mem_cons_of_mem _ h)
  have hl : lv_has ls 2 [(0, .ref pm), (1, .int pp)] := hl
  refine lv_iload_n hx hb d_PM_penalty_0 rfl (lv_at hl 1 rfl) ?_
  refine lv_ldc (v := (-100000)) hx hb hown (htb _ tw_591) d_PM_penalty_1 ?_
  refine lv_icmp_lt (tgt := 12) hx hb d_PM_penalty_3 (by decide) (fun c_1 => ?_) (fun c_1 => ?_)
  · exact pz_thr 86 "a penalty is -100000 to 100000" 47 51 hx hb hl9 hown (by decide +kernel) htb hz hnt hlocks hK hP hD hS tw_201 tw_12 at_IAE1 at_IAE2 at_IAE3 (by decide +kernel) hml hl.1 d_PM_penalty_12 d_PM_penalty_15 d_PM_penalty_16 d_PM_penalty_18 d_PM_penalty_21 (Nat.le_of_ble_eq_true rfl) (Nat.le_of_ble_eq_true rfl) (Nat.le_of_ble_eq_true rfl) (Nat.le_of_ble_eq_true rfl) (Nat.le_of_ble_eq_true rfl) (Nat.le_of_ble_eq_true rfl)
  · refine lv_iload_n hx hb d_PM_penalty_6 rfl (lv_at hl 1 rfl) ?_
    refine lv_ldc (v := 100000) hx hb hown (htb _ tw_439) d_PM_penalty_7 ?_
    refine lv_icmp_le (tgt := 22) hx hb d_PM_penalty_9 (by decide) (fun c_2 => ?_) (fun c_2 => ?_)
    · exact absurd ⟨(i32_le c_1), c_2⟩ hno
    · exact pz_thr 86 "a penalty is -100000 to 100000" 47 51 hx hb hl9 hown (by decide +kernel) htb hz hnt hlocks hK hP hD hS tw_201 tw_12 at_IAE1 at_IAE2 at_IAE3 (by decide +kernel) hml hl.1 d_PM_penalty_12 d_PM_penalty_15 d_PM_penalty_16 d_PM_penalty_18 d_PM_penalty_21 (Nat.le_of_ble_eq_true rfl) (Nat.le_of_ble_eq_true rfl) (Nat.le_of_ble_eq_true rfl) (Nat.le_of_ble_eq_true rfl) (Nat.le_of_ble_eq_true rfl) (Nat.le_of_ble_eq_true rfl)
