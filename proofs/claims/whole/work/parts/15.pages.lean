/-! open pages, ended pages: their methods -/
theorem pz_ito {f : Nat → va_E} {a b j : Nat} {it : It} {y : List Value} (ha : f a = itE it) (hb : f b = .inr (j, y)) (h : j < 5) : a ≠ b := by
  rcases it with ⟨ia, ib⟩ | ⟨ia, ib, io, id9⟩ | ia | ia <;> exact pz_nec ha hb (by omega)
set_option maxHeartbeats 4000000 in
set_option maxRecDepth 100000 in
/-- OpenPage.add(q) -/
theorem c_OP_add (l : Launch) (G : gG) (L : List Nat) (f : Nat → va_E) (sz : Nat) (o to sa fr q : Nat) (P : Op) (T : Tt) (F : Fr) (it : It) (ho : o ∈ L) (hfo : f o = opE to fr P) (ht : to ∈ L) (hft : f to = toE sa T) (hs9 : sa ∈ L) (hsa : f sa = saE G T) (hr9 : fr ∈ L) (hfr : f fr = frE F) (hq : q ∈ L) (hfq : f q = itE it) (hok : itOK it) : mV l y_OP_add w_OP_add ({ frames := 2, cells := 0, slots := 0, locals := 62 }) G L f sz [.ref o, .ref q] 0 0 (fun u => u = (L, va_up (va_up (va_up f o (opE to fr (P.1, T.1, P.2.2))) to (toE sa (t_add it F.2.2 T))) sa (saE G (t_add it F.2.2 T)))) := by
  refine pz_met (cc := prog_8_method_4_code) (maxL := 2) (ret := none) (by decide) rfl (Nat.le_of_ble_eq_true rfl) ?_
  intro p e s m below meth c ls hx hb hr hml hts hown hlocks hin hsz hK hP hD hS hA hz hl
  have htb : ∀ w ∈ TB, w.before _ s = true := fun w h => hts w (List.mem_cons_of_mem _ h)
  have hl : lv_has ls 2 [(0, .ref o), (1, .ref q)] := hl
  have hqo : q ≠ o := pz_ito hfq hfo (by decide)
  refine lv_aload_n hx hb d_OP_add_0 rfl (lv_at hl 0 rfl) ?_
  refine lv_aload_n hx hb d_OP_add_1 rfl (lv_at hl 0 rfl) ?_
  refine pz_get (ci := 2) (C := "PageMaker$OpenPage") (T := T_OP) (N := 8) hx hb htb in_OP hown hK hP ho hfo rfl 0 (by decide) (htb _ tw_123) (fun _ h9 => h9) rfl d_OP_add_2 ?_
  refine pz_get (ci := 3) (C := "PageMaker$Totals") (T := T_TO) (N := 4) hx hb htb in_TO hown hK hP ht hft rfl 1 (by decide) (htb _ tw_103) (fun _ h9 => h9) rfl d_OP_add_5 ?_
  refine pz_put (ci := 2) (v := .long T.1) (ty := .long) (C := "PageMaker$OpenPage") (T := T_OP) (N := 8) hx hb htb in_OP ty_OP to_OP nm_OP hown hK hP hD hS ho hfo rfl 3 (by decide) (htb _ tw_131) (fun _ h9 => h9) rfl rfl rfl rfl (Nat.le_of_ble_eq_true rfl) d_OP_add_8 (fun f1 H locs ef1 hP hD hS => ?_)
  have ef1 : f1 = va_up f o (.inr (2, [.ref to, .ref fr, .int P.1, .long T.1, .int P.2.2.1, .int P.2.2.2.1, .int P.2.2.2.2.1, .int P.2.2.2.2.2])) := ef1
  refine lv_aload_n hx hb d_OP_add_11 rfl (lv_at hl 1 rfl) ?_
  refine lv_aload_n hx hb d_OP_add_12 rfl (lv_at hl 0 rfl) ?_
  have h_2 : f1 o = .inr (2, [.ref to, .ref fr, .int P.1, .long T.1, .int P.2.2.1, .int P.2.2.2.1, .int P.2.2.2.2.1, .int P.2.2.2.2.2]) := by rw [ef1]; exact va_up_self _ _ _
  refine pz_get (ci := 2) (C := "PageMaker$OpenPage") (T := T_OP) (N := 8) hx hb htb in_OP hown hK hP ho h_2 rfl 0 (by decide) (htb _ tw_123) (fun _ h9 => h9) rfl d_OP_add_13 ?_
  refine lv_aload_n hx hb d_OP_add_16 rfl (lv_at hl 0 rfl) ?_
  refine pz_get (ci := 2) (C := "PageMaker$OpenPage") (T := T_OP) (N := 8) hx hb htb in_OP hown hK hP ho h_2 rfl 1 (by decide) (htb _ tw_126) (fun _ h9 => h9) rfl d_OP_add_17 ?_
  have h_3 : f1 q = itE it := by rw [ef1, va_up_ne _ _ hqo]; exact hfq
  have h_4 : f1 to = .inr (3, [.ref sa, .long T.1, .long T.2.1, .long T.2.2.1]) := by rw [ef1, va_up_ne _ _ (pz_nec hft hfo (by decide))]; exact hft
  have h_5 : f1 sa = .inl (cJ G, 4, .inr (.inl T.2.2.2)) := by rw [ef1, va_up_ne _ _ (pz_nea hsa hfo)]; exact hsa
  have h_6 : f1 fr = .inr (1, [.int F.1, .int F.2.1, .int F.2.2]) := by rw [ef1, va_up_ne _ _ (pz_nec hfr hfo (by decide))]; exact hfr
  rcases it with ⟨ia, ib⟩ | ⟨ia, ib, io, id9⟩ | ia | ia
  · refine pz_cv (va_runU (C := "PageMaker$Box") (As := [.ref to, .ref fr]) (rest := []) ⟨hx, hb, hml, hown, hts⟩ (ad_box l G L f1 _ q to sa fr T F ia ib hq h_3 ht h_4 hr9 h_6 hs9 h_5) (va_cwA 2 hts (tb_U tw_533 tw_467 tw_468 tw_469 tw_15 tw_470) rfl rfl rfl (hz.1 _ tn_466) (by decide +kernel) ⟨(Nat.le_of_ble_eq_true rfl), (Nat.le_of_ble_eq_true rfl)⟩) (pz_preV (zz_ok _ _ _) hK hP hD hS hA hz (ci := 5) rfl rfl hq h_3) rfl rfl hl.1 rfl (lv_room (Nat.le_of_ble_eq_true rfl)) d_OP_add_20 ⟨(Nat.le_of_ble_eq_true rfl), (Nat.le_of_ble_eq_true rfl)⟩) hP hD hS hA (fun L8 f7 H locs hw hP hD hS => ?_)
    have ef7 : f7 = va_up (va_up f1 to (toE sa (t_add (.inl (ia, ib)) F.2.2 T))) sa (saE G (t_add (.inl (ia, ib)) F.2.2 T)) := (Prod.mk.inj hw).2
    have eL8 : L8 = L := (Prod.mk.inj hw).1
    subst L8
    obtain ⟨f9, ef9⟩ : ∃ y, y = va_up f1 to (toE sa (t_add (.inl (ia, ib)) F.2.2 T)) := ⟨_, rfl⟩
    rw [← ef9] at ef7
    exact pz_vret hx hb hr hlocks hK hP hD hS (Nat.le_of_ble_eq_true rfl) (Nat.le_of_ble_eq_true rfl) (by rw [ef7, ef9, ef1]; rfl) d_OP_add_23
  · refine pz_cv (va_runU (C := "PageMaker$Glue") (As := [.ref to, .ref fr]) (rest := []) ⟨hx, hb, hml, hown, hts⟩ (ad_glue l G L f1 _ q to sa fr T F ia ib io id9 hq h_3 ht h_4 hr9 h_6 hs9 h_5 hok) (va_cwA 2 hts (tb_U tw_533 tw_467 tw_472 tw_473 tw_23 tw_474) rfl rfl rfl (hz.1 _ tn_466) (by decide +kernel) ⟨(Nat.le_of_ble_eq_true rfl), (Nat.le_of_ble_eq_true rfl)⟩) (pz_preV (zz_ok _ _ _) hK hP hD hS hA hz (ci := 6) rfl rfl hq h_3) rfl rfl hl.1 rfl (lv_room (Nat.le_of_ble_eq_true rfl)) d_OP_add_20 ⟨(Nat.le_of_ble_eq_true rfl), (Nat.le_of_ble_eq_true rfl)⟩) hP hD hS hA (fun L11 f10 H locs hw hP hD hS => ?_)
    have ef10 : f10 = va_up (va_up f1 to (toE sa (t_add (.inr (.inl (ia, ib, io, id9))) F.2.2 T))) sa (saE G (t_add (.inr (.inl (ia, ib, io, id9))) F.2.2 T)) := (Prod.mk.inj hw).2
    have eL11 : L11 = L := (Prod.mk.inj hw).1
    subst L11
    obtain ⟨f12, ef12⟩ : ∃ y, y = va_up f1 to (toE sa (t_add (.inr (.inl (ia, ib, io, id9))) F.2.2 T)) := ⟨_, rfl⟩
    rw [← ef12] at ef10
    exact pz_vret hx hb hr hlocks hK hP hD hS (Nat.le_of_ble_eq_true rfl) (Nat.le_of_ble_eq_true rfl) (by rw [ef10, ef12, ef1]; rfl) d_OP_add_23
  · refine pz_cv (va_runU (C := "PageMaker$Kern") (As := [.ref to, .ref fr]) (rest := []) ⟨hx, hb, hml, hown, hts⟩ (ad_kern l G L f1 _ q to sa fr T F ia hq h_3 ht h_4 hs9 h_5) (va_cwA 2 hts (tb_U tw_533 tw_467 tw_476 tw_477 tw_24 tw_478) rfl rfl rfl (hz.1 _ tn_466) (by decide +kernel) ⟨(Nat.le_of_ble_eq_true rfl), (Nat.le_of_ble_eq_true rfl)⟩) (pz_preV (zz_ok _ _ _) hK hP hD hS hA hz (ci := 7) rfl rfl hq h_3) rfl rfl hl.1 rfl (lv_room (Nat.le_of_ble_eq_true rfl)) d_OP_add_20 ⟨(Nat.le_of_ble_eq_true rfl), (Nat.le_of_ble_eq_true rfl)⟩) hP hD hS hA (fun L14 f13 H locs hw hP hD hS => ?_)
    have ef13 : f13 = va_up (va_up f1 to (toE sa (t_add (.inr (.inr (.inl ia))) F.2.2 T))) sa (saE G (t_add (.inr (.inr (.inl ia))) F.2.2 T)) := (Prod.mk.inj hw).2
    have eL14 : L14 = L := (Prod.mk.inj hw).1
    subst L14
    obtain ⟨f15, ef15⟩ : ∃ y, y = va_up f1 to (toE sa (t_add (.inr (.inr (.inl ia))) F.2.2 T)) := ⟨_, rfl⟩
    rw [← ef15] at ef13
    exact pz_vret hx hb hr hlocks hK hP hD hS (Nat.le_of_ble_eq_true rfl) (Nat.le_of_ble_eq_true rfl) (by rw [ef13, ef15, ef1]; rfl) d_OP_add_23
  · refine pz_cv (va_runU (C := "PageMaker$Penalty") (As := [.ref to, .ref fr]) (rest := []) ⟨hx, hb, hml, hown, hts⟩ (ad_pen l G L f1 _ q to sa fr T F ia h_4 h_5) (va_cwA 2 hts (tb_U tw_533 tw_467 tw_480 tw_481 tw_25 tw_482) rfl rfl rfl (hz.1 _ tn_466) (by decide +kernel) ⟨(Nat.le_of_ble_eq_true rfl), (Nat.le_of_ble_eq_true rfl)⟩) (pz_preV (zz_ok _ _ _) hK hP hD hS hA hz (ci := 8) rfl rfl hq h_3) rfl rfl hl.1 rfl (lv_room (Nat.le_of_ble_eq_true rfl)) d_OP_add_20 ⟨(Nat.le_of_ble_eq_true rfl), (Nat.le_of_ble_eq_true rfl)⟩) hP hD hS hA (fun L17 f16 H locs hw hP hD hS => ?_)
    have ef16 : f16 = va_up (va_up f1 to (toE sa (t_add (.inr (.inr (.inr ia))) F.2.2 T))) sa (saE G (t_add (.inr (.inr (.inr ia))) F.2.2 T)) := (Prod.mk.inj hw).2
    have eL17 : L17 = L := (Prod.mk.inj hw).1
    subst L17
    obtain ⟨f18, ef18⟩ : ∃ y, y = va_up f1 to (toE sa (t_add (.inr (.inr (.inr ia))) F.2.2 T)) := ⟨_, rfl⟩
    rw [← ef18] at ef16
    exact pz_vret hx hb hr hlocks hK hP hD hS (Nat.le_of_ble_eq_true rfl) (Nat.le_of_ble_eq_true rfl) (by rw [ef16, ef18, ef1]; rfl) d_OP_add_23
set_option maxHeartbeats 4000000 in
set_option maxRecDepth 100000 in
/-- OpenPage.begin(pl, q, fr2) -/
theorem c_OP_begin (l : Launch) (G : gG) (L : List Nat) (f : Nat → va_E) (sz : Nat) (o to sa fr fr2 q : Nat) (P : Op) (T : Tt) (F F2 : Fr) (pl b0 b1 : Int32) (ho : o ∈ L) (hfo : f o = opE to fr P) (ht : to ∈ L) (hft : f to = toE sa T) (hs9 : sa ∈ L) (hsa : f sa = saE G T) (hr9 : fr ∈ L) (hfr : f fr = frE F) (hr8 : fr2 ∈ L) (hfr2 : f fr2 = frE F2) (hq : q ∈ L) (hfq : f q = itE (.inl (b0, b1))) : mV l y_OP_begin w_OP_begin ({ frames := 3, cells := 0, slots := 0, locals := 83 }) G L f sz [.ref o, .int pl, .ref q, .ref fr2] 0 0 (fun u => u = (L, va_up (va_up (va_up f o (opE to fr2 (pl, (t_sp (k_top F2.2.1 b0) T).1, P.2.2))) to (toE sa (t_add (.inl (b0, b1)) F2.2.2 (t_sp (k_top F2.2.1 b0) T)))) sa (saE G (t_add (.inl (b0, b1)) F2.2.2 (t_sp (k_top F2.2.1 b0) T))))) := by
  refine pz_met (cc := prog_8_method_3_code) (maxL := 4) (ret := none) (by decide) rfl (Nat.le_of_ble_eq_true rfl) ?_
  intro p e s m below meth c ls hx hb hr hml hts hown hlocks hin hsz hK hP hD hS hA hz hl
  have htb : ∀ w ∈ TB, w.before _ s = true := fun w h => hts w (List.mem_cons_of_mem _ h)
  have hl : lv_has ls 4 [(0, .ref o), (1, .int pl), (2, .ref q), (3, .ref fr2)] := hl
  refine lv_aload_n hx hb d_OP_begin_0 rfl (lv_at hl 0 rfl) ?_
  refine lv_iload_n hx hb d_OP_begin_1 rfl (lv_at hl 1 rfl) ?_
  refine pz_put (ci := 2) (v := .int pl) (ty := .int) (C := "PageMaker$OpenPage") (T := T_OP) (N := 8) hx hb htb in_OP ty_OP to_OP nm_OP hown hK hP hD hS ho hfo rfl 2 (by decide) (htb _ tw_129) (fun _ h9 => h9) rfl rfl rfl rfl (Nat.le_of_ble_eq_true rfl) d_OP_begin_2 (fun f1 H locs ef1 hP hD hS => ?_)
  have ef1 : f1 = va_up f o (.inr (2, [.ref to, .ref fr, .int pl, .long P.2.1, .int P.2.2.1, .int P.2.2.2.1, .int P.2.2.2.2.1, .int P.2.2.2.2.2])) := ef1
  refine lv_aload_n hx hb d_OP_begin_5 rfl (lv_at hl 0 rfl) ?_
  refine lv_aload_n hx hb d_OP_begin_6 rfl (lv_at hl 3 rfl) ?_
  have h_2 : f1 o = .inr (2, [.ref to, .ref fr, .int pl, .long P.2.1, .int P.2.2.1, .int P.2.2.2.1, .int P.2.2.2.2.1, .int P.2.2.2.2.2]) := by rw [ef1]; exact va_up_self _ _ _
  refine pz_put (ci := 2) (v := .ref fr2) (ty := .object "PageMaker$Frame") (C := "PageMaker$OpenPage") (T := T_OP) (N := 8) hx hb htb in_OP ty_OP to_OP nm_OP hown hK hP hD hS ho h_2 rfl 1 (by decide) (htb _ tw_126) (fun _ h9 => h9) rfl rfl rfl rfl (Nat.le_of_ble_eq_true rfl) d_OP_begin_7 (fun f3 H locs ef3 hP hD hS => ?_)
  have ef3 : f3 = va_up f1 o (.inr (2, [.ref to, .ref fr2, .int pl, .long P.2.1, .int P.2.2.1, .int P.2.2.2.1, .int P.2.2.2.2.1, .int P.2.2.2.2.2])) := ef3
  refine lv_aload_n hx hb d_OP_begin_10 rfl (lv_at hl 0 rfl) ?_
  have h_4 : f3 o = .inr (2, [.ref to, .ref fr2, .int pl, .long P.2.1, .int P.2.2.1, .int P.2.2.2.1, .int P.2.2.2.2.1, .int P.2.2.2.2.2]) := by rw [ef3]; exact va_up_self _ _ _
  refine pz_get (ci := 2) (C := "PageMaker$OpenPage") (T := T_OP) (N := 8) hx hb htb in_OP hown hK hP ho h_4 rfl 0 (by decide) (htb _ tw_123) (fun _ h9 => h9) rfl d_OP_begin_11 ?_
  refine lv_aload_n hx hb d_OP_begin_14 rfl (lv_at hl 0 rfl) ?_
  refine pz_get (ci := 2) (C := "PageMaker$OpenPage") (T := T_OP) (N := 8) hx hb htb in_OP hown hK hP ho h_4 rfl 1 (by decide) (htb _ tw_126) (fun _ h9 => h9) rfl d_OP_begin_15 ?_
  refine lv_aload_n hx hb d_OP_begin_18 rfl (lv_at hl 2 rfl) ?_
  have h_6 : f1 to = .inr (3, [.ref sa, .long T.1, .long T.2.1, .long T.2.2.1]) := by rw [ef1, va_up_ne _ _ (pz_nec hft hfo (by decide))]; exact hft
  have h_5 : f3 to = .inr (3, [.ref sa, .long T.1, .long T.2.1, .long T.2.2.1]) := by rw [ef3, va_up_ne _ _ (pz_nec hft hfo (by decide))]; exact h_6
  have h_8 : f1 fr2 = .inr (1, [.int F2.1, .int F2.2.1, .int F2.2.2]) := by rw [ef1, va_up_ne _ _ (pz_nec hfr2 hfo (by decide))]; exact hfr2
  have h_7 : f3 fr2 = .inr (1, [.int F2.1, .int F2.2.1, .int F2.2.2]) := by rw [ef3, va_up_ne _ _ (pz_nec hfr2 hfo (by decide))]; exact h_8
  have h_10 : f1 q = .inr (5, [.int b0, .int b1]) := by rw [ef1, va_up_ne _ _ (pz_nec hfq hfo (by decide))]; exact hfq
  have h_9 : f3 q = .inr (5, [.int b0, .int b1]) := by rw [ef3, va_up_ne _ _ (pz_nec hfq hfo (by decide))]; exact h_10
  refine pz_cv (va_runV (As := [.ref fr2, .ref q]) (rest := []) ⟨hx, hb, hml, hown, hts⟩ (c_TO_addTopGlue l G L f3 _ to sa fr2 q T.1 T.2.1 T.2.2.1 F2.1 F2.2.1 F2.2.2 b0 b1 ht h_5 hr8 h_7 hq h_9) (cwV 2 hts (tb_V tw_538 tw_455 tw_456 tw_7 tw_457) rfl rfl rfl (by decide +kernel) ⟨(Nat.le_of_ble_eq_true rfl), (Nat.le_of_ble_eq_true rfl)⟩) (pz_preV (zz_ok _ _ _) hK hP hD hS hA hz (ci := 3) rfl rfl ht h_5) rfl rfl hl.1 rfl (lv_room (Nat.le_of_ble_eq_true rfl)) d_OP_begin_19 ⟨(Nat.le_of_ble_eq_true rfl), (Nat.le_of_ble_eq_true rfl)⟩) hP hD hS hA (fun L12 f11 H locs hw hP hD hS => ?_)
  have ef11 : f11 = va_up (f3) to (toE sa (t_sp (k_top F2.2.1 b0) T)) := (Prod.mk.inj hw).2
  have eL12 : L12 = L := (Prod.mk.inj hw).1
  subst L12
  refine lv_aload_n hx hb d_OP_begin_22 rfl (lv_at hl 0 rfl) ?_
  refine lv_aload_n hx hb d_OP_begin_23 rfl (lv_at hl 2 rfl) ?_
  have h_13 : f11 o = .inr (2, [.ref to, .ref fr2, .int pl, .long P.2.1, .int P.2.2.1, .int P.2.2.2.1, .int P.2.2.2.2.1, .int P.2.2.2.2.2]) := by rw [ef11, va_up_ne _ _ (Ne.symm (pz_nec hft hfo (by decide)))]; exact h_4
  have h_14 : f11 to = .inr (3, [.ref sa, .long ((t_sp (k_top F2.2.1 b0) T).1), .long ((t_sp (k_top F2.2.1 b0) T).2.1), .long ((t_sp (k_top F2.2.1 b0) T).2.2.1)]) := by rw [ef11]; exact va_up_self _ _ _
  have h_17 : f1 sa = .inl (cJ G, 4, .inr (.inl T.2.2.2)) := by rw [ef1, va_up_ne _ _ (pz_nea hsa hfo)]; exact hsa
  have h_16 : f3 sa = .inl (cJ G, 4, .inr (.inl T.2.2.2)) := by rw [ef3, va_up_ne _ _ (pz_nea hsa hfo)]; exact h_17
  have h_15 : f11 sa = .inl (cJ G, 4, .inr (.inl T.2.2.2)) := by rw [ef11, va_up_ne _ _ (pz_nea hsa hft)]; exact h_16
  have h_18 : f11 fr2 = .inr (1, [.int F2.1, .int F2.2.1, .int F2.2.2]) := by rw [ef11, va_up_ne _ _ (pz_nec hfr2 hft (by decide))]; exact h_7
  have h_19 : f11 q = .inr (5, [.int b0, .int b1]) := by rw [ef11, va_up_ne _ _ (pz_nec hfq hft (by decide))]; exact h_9
  refine pz_cv (va_runV (As := [.ref q]) (rest := []) ⟨hx, hb, hml, hown, hts⟩ (c_OP_add l G L f11 _ o to sa fr2 q (pl, P.2) (t_sp (k_top F2.2.1 b0) T) F2 (.inl (b0, b1)) ho h_13 ht h_14 hs9 h_15 hr8 h_18 hq h_19 trivial) (cwV 1 hts (tb_V tw_539 tw_530 tw_531 tw_6 tw_532) rfl rfl rfl (by decide +kernel) ⟨(Nat.le_of_ble_eq_true rfl), (Nat.le_of_ble_eq_true rfl)⟩) (pz_preV (zz_ok _ _ _) hK hP hD hS hA hz (ci := 2) rfl rfl ho h_13) rfl rfl hl.1 rfl (lv_room (Nat.le_of_ble_eq_true rfl)) d_OP_begin_24 ⟨(Nat.le_of_ble_eq_true rfl), (Nat.le_of_ble_eq_true rfl)⟩) hP hD hS hA (fun L21 f20 H locs hw hP hD hS => ?_)
  have ef20 : f20 = va_up (va_up (va_up (f11) o (opE to fr2 (pl, (t_sp (k_top F2.2.1 b0) T).1, P.2.2))) to (toE sa (t_add (.inl (b0, b1)) F2.2.2 (t_sp (k_top F2.2.1 b0) T)))) sa (saE G (t_add (.inl (b0, b1)) F2.2.2 (t_sp (k_top F2.2.1 b0) T))) := (Prod.mk.inj hw).2
  have eL21 : L21 = L := (Prod.mk.inj hw).1
  subst L21
  obtain ⟨f22, ef22⟩ : ∃ y, y = va_up f11 o (opE to fr2 (pl, (t_sp (k_top F2.2.1 b0) T).1, P.2.2)) := ⟨_, rfl⟩
  rw [← ef22] at ef20
  obtain ⟨f23, ef23⟩ : ∃ y, y = va_up f22 to (toE sa (t_add (.inl (b0, b1)) F2.2.2 (t_sp (k_top F2.2.1 b0) T))) := ⟨_, rfl⟩
  rw [← ef23] at ef20
  exact pz_vret hx hb hr hlocks hK hP hD hS (Nat.le_of_ble_eq_true rfl) (Nat.le_of_ble_eq_true rfl) (by rw [ef20, ef23, ef22, ef11, ef3, ef1, pz_up_comm _ _ _ (pz_nec hft hfo (by decide)), bx_uu, bx_uu, bx_uu]) d_OP_begin_27
set_option maxHeartbeats 4000000 in
set_option maxRecDepth 100000 in
/-- OpenPage.endsAtBreak(pl, le, pp) -/
theorem c_OP_endsAtBreak (l : Launch) (G : gG) (L : List Nat) (f : Nat → va_E) (sz : Nat) (o to sa fr : Nat) (P : Op) (T : Tt) (F : Fr) (pl pp : Int32) (le : Int64) (ho : o ∈ L) (hfo : f o = opE to fr P) (ht : to ∈ L) (hft : f to = toE sa T) (hs9 : sa ∈ L) (hsa : f sa = saE G T) (hr9 : fr ∈ L) (hfr : f fr = frE F) : mI l y_OP_endsAtBreak w_OP_endsAtBreak ({ frames := 2, cells := 0, slots := 0, locals := 47 }) G L f sz [.ref o, .int pl, .long le, .int pp] 0 0 (fun r u => k_b (o_ends (k_cost (o_bad T F.1 le) pp) pp) r ∧ (r = 1 → u = (L, va_up f o (opE to fr (o_end (o_best P pl (o_bad T F.1 le) (k_cost (o_bad T F.1 le) pp)) pl)))) ∧ (r = 0 → u = (L, va_up f o (opE to fr (o_best P pl (o_bad T F.1 le) (k_cost (o_bad T F.1 le) pp)))))) := by
  refine pz_met (cc := prog_8_method_5_code) (maxL := 7) (ret := (some .boolean)) (by decide) rfl (Nat.le_of_ble_eq_true rfl) ?_
  intro p e s m below meth c ls hx hb hr hml hts hown hlocks hin hsz hK hP hD hS hA hz hl
  have htb : ∀ w ∈ TB, w.before _ s = true := fun w h => hts w (List.mem_cons_of_mem _ h)
  have hl : lv_has ls 7 [(0, .ref o), (1, .int pl), (2, .long le), (4, .int pp)] := hl
  refine lv_aload_n hx hb d_OP_endsAtBreak_0 rfl (lv_at hl 0 rfl) ?_
  refine pz_get (ci := 2) (C := "PageMaker$OpenPage") (T := T_OP) (N := 8) hx hb htb in_OP hown hK hP ho hfo rfl 0 (by decide) (htb _ tw_123) (fun _ h9 => h9) rfl d_OP_endsAtBreak_1 ?_
  refine lv_aload_n hx hb d_OP_endsAtBreak_4 rfl (lv_at hl 0 rfl) ?_
  refine pz_get (ci := 2) (C := "PageMaker$OpenPage") (T := T_OP) (N := 8) hx hb htb in_OP hown hK hP ho hfo rfl 1 (by decide) (htb _ tw_126) (fun _ h9 => h9) rfl d_OP_endsAtBreak_5 ?_
  refine pz_get (ci := 1) (C := "PageMaker$Frame") (T := T_FR) (N := 3) hx hb htb in_FR hown hK hP hr9 hfr rfl 0 (by decide) (htb _ tw_72) (fun _ h9 => h9) rfl d_OP_endsAtBreak_8 ?_
  refine lv_i2l hx hb d_OP_endsAtBreak_11 rfl ?_
  refine lv_lload_n hx hb d_OP_endsAtBreak_12 rfl (lv_at hl 2 rfl) ?_
  refine lv_lsub hx hb d_OP_endsAtBreak_13 ?_
  refine vp_callSi (va_Run.run (va_runV (As := [.long (F.1.toInt64 - le)]) (rest := []) ⟨hx, hb, hml, hown, hts⟩ (c_TO_badnessOfExcess l G L f _ to sa T.1 T.2.1 T.2.2.1 (F.1.toInt64 - le) T.2.2.2 ht hft hs9 hsa) (cwV 1 hts (tb_V tw_418 tw_419 tw_420 tw_7 tw_421) rfl rfl rfl (by decide +kernel) ⟨(Nat.le_of_ble_eq_true rfl), (Nat.le_of_ble_eq_true rfl)⟩) (pz_preV (zz_ok _ _ _) hK hP hD hS hA hz (ci := 3) rfl rfl ht hft) rfl rfl hl.1 rfl (lv_room (Nat.le_of_ble_eq_true rfl)) d_OP_endsAtBreak_14 ⟨(Nat.le_of_ble_eq_true rfl), (Nat.le_of_ble_eq_true rfl)⟩)) (fun r1 hw => ?_)
  have hw : r1 = (o_bad T F.1 le) := hw
  subst r1
  refine lv_istore (lv' := [(5, .int (o_bad T F.1 le)), (0, .ref o), (1, .int pl), (2, .long le), (4, .int pp)]) hx hb d_OP_endsAtBreak_17 hl (by decide) rfl (fun ls hl => ?_)
  refine lv_iload hx hb d_OP_endsAtBreak_19 (lv_at hl 0 rfl) ?_
  refine lv_iload hx hb d_OP_endsAtBreak_21 (lv_at hl 4 rfl) ?_
  refine vp_callSi (va_Run.run (va_runSN (As := [.int (o_bad T F.1 le), .int pp]) (rest := []) ⟨hx, hb, hml, hown, hts⟩ (c_PM_costOf l (o_bad T F.1 le) pp) ⟨va_cnB 2 hts (tb_good tw_438) rfl rfl rfl (hz.1 _ tn_436) (htb _ tw_1) (by decide +kernel) ⟨(Nat.le_of_ble_eq_true rfl), (Nat.le_of_ble_eq_true rfl)⟩, htb _ tw_437, trivial⟩ pz_preP rfl rfl hl.1 rfl (lv_room (Nat.le_of_ble_eq_true rfl)) d_OP_endsAtBreak_23 ⟨(Nat.le_of_ble_eq_true rfl), (Nat.le_of_ble_eq_true rfl)⟩)) (fun r2 hw => ?_)
  have hw : r2 = (k_cost (o_bad T F.1 le) pp) := hw
  subst r2
  refine lv_istore (lv' := [(6, .int (k_cost (o_bad T F.1 le) pp)), (5, .int (o_bad T F.1 le)), (0, .ref o), (1, .int pl), (2, .long le), (4, .int pp)]) hx hb d_OP_endsAtBreak_26 hl (by decide) rfl (fun ls hl => ?_)
  refine lv_iload hx hb d_OP_endsAtBreak_28 (lv_at hl 0 rfl) ?_
  refine lv_aload_n hx hb d_OP_endsAtBreak_30 rfl (lv_at hl 2 rfl) ?_
  refine pz_get (ci := 2) (C := "PageMaker$OpenPage") (T := T_OP) (N := 8) hx hb htb in_OP hown hK hP ho hfo rfl 5 (by decide) (htb _ tw_137) (fun _ h9 => h9) rfl d_OP_endsAtBreak_31 ?_
  refine lv_icmp_gt (tgt := 54) hx hb d_OP_endsAtBreak_34 (by decide) (fun c_3 => ?_) (fun c_3 => ?_)
  · refine lv_iload hx hb d_OP_endsAtBreak_54 (lv_at hl 0 rfl) ?_
    refine lv_ldc (v := 1073741823) hx hb hown (htb _ tw_122) d_OP_endsAtBreak_56 ?_
    refine lv_icmp_eq (tgt := 71) hx hb d_OP_endsAtBreak_58 (by decide) (fun c_4 => ?_) (fun c_4 => ?_)
    · refine lv_aload_n hx hb d_OP_endsAtBreak_71 rfl (lv_at hl 2 rfl) ?_
      refine lv_iload_n hx hb d_OP_endsAtBreak_72 rfl (lv_at hl 3 rfl) ?_
      refine pz_put (ci := 2) (v := .int pl) (ty := .int) (C := "PageMaker$OpenPage") (T := T_OP) (N := 8) hx hb htb in_OP ty_OP to_OP nm_OP hown hK hP hD hS ho hfo rfl 7 (by decide) (htb _ tw_141) (fun _ h9 => h9) rfl rfl rfl rfl (Nat.le_of_ble_eq_true rfl) d_OP_endsAtBreak_73 (fun f5 H locs ef5 hP hD hS => ?_)
      have ef5 : f5 = va_up f o (.inr (2, [.ref to, .ref fr, .int P.1, .long P.2.1, .int P.2.2.1, .int P.2.2.2.1, .int P.2.2.2.2.1, .int pl])) := ef5
      refine lv_iconst (v := 1) hx hb d_OP_endsAtBreak_76 (by decide) ?_
      exact pz_iret hx hb hr rfl hlocks hK hP hD hS (Nat.le_of_ble_eq_true rfl) (Nat.le_of_ble_eq_true rfl) ⟨k_b1 (Or.inl c_4), fun _ => by rw [ef5, o_best, if_neg (i32_nle c_3)]; rfl, fun h => absurd h (by decide)⟩ d_OP_endsAtBreak_77
    · refine lv_iload hx hb d_OP_endsAtBreak_61 (lv_at hl 5 rfl) ?_
      refine lv_sipush (v := (-10000)) hx hb d_OP_endsAtBreak_63 (by decide) ?_
      refine lv_icmp_le (tgt := 71) hx hb d_OP_endsAtBreak_66 (by decide) (fun c_6 => ?_) (fun c_6 => ?_)
      · refine lv_aload_n hx hb d_OP_endsAtBreak_71 rfl (lv_at hl 2 rfl) ?_
        refine lv_iload_n hx hb d_OP_endsAtBreak_72 rfl (lv_at hl 3 rfl) ?_
        refine pz_put (ci := 2) (v := .int pl) (ty := .int) (C := "PageMaker$OpenPage") (T := T_OP) (N := 8) hx hb htb in_OP ty_OP to_OP nm_OP hown hK hP hD hS ho hfo rfl 7 (by decide) (htb _ tw_141) (fun _ h9 => h9) rfl rfl rfl rfl (Nat.le_of_ble_eq_true rfl) d_OP_endsAtBreak_73 (fun f7 H locs ef7 hP hD hS => ?_)
        have ef7 : f7 = va_up f o (.inr (2, [.ref to, .ref fr, .int P.1, .long P.2.1, .int P.2.2.1, .int P.2.2.2.1, .int P.2.2.2.2.1, .int pl])) := ef7
        refine lv_iconst (v := 1) hx hb d_OP_endsAtBreak_76 (by decide) ?_
        exact pz_iret hx hb hr rfl hlocks hK hP hD hS (Nat.le_of_ble_eq_true rfl) (Nat.le_of_ble_eq_true rfl) ⟨k_b1 (Or.inr c_6), fun _ => by rw [ef7, o_best, if_neg (i32_nle c_3)]; rfl, fun h => absurd h (by decide)⟩ d_OP_endsAtBreak_77
      · refine lv_iconst (v := 0) hx hb d_OP_endsAtBreak_69 (by decide) ?_
        exact pz_iret hx hb hr rfl hlocks hK hP hD hS (Nat.le_of_ble_eq_true rfl) (Nat.le_of_ble_eq_true rfl) ⟨k_b0 (fun h => h.elim c_4 c_6), fun h => absurd h (by decide), fun _ => by rw [o_best, if_neg (i32_nle c_3)]; show (L, f) = (L, va_up f o (opE to fr P)); rw [← hfo, pz_up_same]⟩ d_OP_endsAtBreak_70
  · refine lv_aload_n hx hb d_OP_endsAtBreak_37 rfl (lv_at hl 2 rfl) ?_
    refine lv_iload_n hx hb d_OP_endsAtBreak_38 rfl (lv_at hl 3 rfl) ?_
    refine pz_put (ci := 2) (v := .int pl) (ty := .int) (C := "PageMaker$OpenPage") (T := T_OP) (N := 8) hx hb htb in_OP ty_OP to_OP nm_OP hown hK hP hD hS ho hfo rfl 4 (by decide) (htb _ tw_134) (fun _ h9 => h9) rfl rfl rfl rfl (Nat.le_of_ble_eq_true rfl) d_OP_endsAtBreak_39 (fun f8 H locs ef8 hP hD hS => ?_)
    have ef8 : f8 = va_up f o (.inr (2, [.ref to, .ref fr, .int P.1, .long P.2.1, .int pl, .int P.2.2.2.1, .int P.2.2.2.2.1, .int P.2.2.2.2.2])) := ef8
    refine lv_aload_n hx hb d_OP_endsAtBreak_42 rfl (lv_at hl 2 rfl) ?_
    refine lv_iload hx hb d_OP_endsAtBreak_43 (lv_at hl 0 rfl) ?_
    have h_9 : f8 o = .inr (2, [.ref to, .ref fr, .int P.1, .long P.2.1, .int pl, .int P.2.2.2.1, .int P.2.2.2.2.1, .int P.2.2.2.2.2]) := by rw [ef8]; exact va_up_self _ _ _
    refine pz_put (ci := 2) (v := .int (k_cost (o_bad T F.1 le) pp)) (ty := .int) (C := "PageMaker$OpenPage") (T := T_OP) (N := 8) hx hb htb in_OP ty_OP to_OP nm_OP hown hK hP hD hS ho h_9 rfl 5 (by decide) (htb _ tw_137) (fun _ h9 => h9) rfl rfl rfl rfl (Nat.le_of_ble_eq_true rfl) d_OP_endsAtBreak_45 (fun f10 H locs ef10 hP hD hS => ?_)
    have ef10 : f10 = va_up f8 o (.inr (2, [.ref to, .ref fr, .int P.1, .long P.2.1, .int pl, .int (k_cost (o_bad T F.1 le) pp), .int P.2.2.2.2.1, .int P.2.2.2.2.2])) := ef10
    refine lv_aload_n hx hb d_OP_endsAtBreak_48 rfl (lv_at hl 2 rfl) ?_
    refine lv_iload hx hb d_OP_endsAtBreak_49 (lv_at hl 1 rfl) ?_
    have h_11 : f10 o = .inr (2, [.ref to, .ref fr, .int P.1, .long P.2.1, .int pl, .int (k_cost (o_bad T F.1 le) pp), .int P.2.2.2.2.1, .int P.2.2.2.2.2]) := by rw [ef10]; exact va_up_self _ _ _
    refine pz_put (ci := 2) (v := .int (o_bad T F.1 le)) (ty := .int) (C := "PageMaker$OpenPage") (T := T_OP) (N := 8) hx hb htb in_OP ty_OP to_OP nm_OP hown hK hP hD hS ho h_11 rfl 6 (by decide) (htb _ tw_140) (fun _ h9 => h9) rfl rfl rfl rfl (Nat.le_of_ble_eq_true rfl) d_OP_endsAtBreak_51 (fun f12 H locs ef12 hP hD hS => ?_)
    have ef12 : f12 = va_up f10 o (.inr (2, [.ref to, .ref fr, .int P.1, .long P.2.1, .int pl, .int (k_cost (o_bad T F.1 le) pp), .int (o_bad T F.1 le), .int P.2.2.2.2.2])) := ef12
    refine lv_iload hx hb d_OP_endsAtBreak_54 (lv_at hl 0 rfl) ?_
    refine lv_ldc (v := 1073741823) hx hb hown (htb _ tw_122) d_OP_endsAtBreak_56 ?_
    refine lv_icmp_eq (tgt := 71) hx hb d_OP_endsAtBreak_58 (by decide) (fun c_13 => ?_) (fun c_13 => ?_)
    · refine lv_aload_n hx hb d_OP_endsAtBreak_71 rfl (lv_at hl 2 rfl) ?_
      refine lv_iload_n hx hb d_OP_endsAtBreak_72 rfl (lv_at hl 3 rfl) ?_
      have h_14 : f12 o = .inr (2, [.ref to, .ref fr, .int P.1, .long P.2.1, .int pl, .int (k_cost (o_bad T F.1 le) pp), .int (o_bad T F.1 le), .int P.2.2.2.2.2]) := by rw [ef12]; exact va_up_self _ _ _
      refine pz_put (ci := 2) (v := .int pl) (ty := .int) (C := "PageMaker$OpenPage") (T := T_OP) (N := 8) hx hb htb in_OP ty_OP to_OP nm_OP hown hK hP hD hS ho h_14 rfl 7 (by decide) (htb _ tw_141) (fun _ h9 => h9) rfl rfl rfl rfl (Nat.le_of_ble_eq_true rfl) d_OP_endsAtBreak_73 (fun f15 H locs ef15 hP hD hS => ?_)
      have ef15 : f15 = va_up f12 o (.inr (2, [.ref to, .ref fr, .int P.1, .long P.2.1, .int pl, .int (k_cost (o_bad T F.1 le) pp), .int (o_bad T F.1 le), .int pl])) := ef15
      refine lv_iconst (v := 1) hx hb d_OP_endsAtBreak_76 (by decide) ?_
      exact pz_iret hx hb hr rfl hlocks hK hP hD hS (Nat.le_of_ble_eq_true rfl) (Nat.le_of_ble_eq_true rfl) ⟨k_b1 (Or.inl c_13), fun _ => by rw [ef15, ef12, ef10, ef8, bx_uu, bx_uu, bx_uu, o_best, if_pos (i32_le c_3)]; rfl, fun h => absurd h (by decide)⟩ d_OP_endsAtBreak_77
    · refine lv_iload hx hb d_OP_endsAtBreak_61 (lv_at hl 5 rfl) ?_
      refine lv_sipush (v := (-10000)) hx hb d_OP_endsAtBreak_63 (by decide) ?_
      refine lv_icmp_le (tgt := 71) hx hb d_OP_endsAtBreak_66 (by decide) (fun c_16 => ?_) (fun c_16 => ?_)
      · refine lv_aload_n hx hb d_OP_endsAtBreak_71 rfl (lv_at hl 2 rfl) ?_
        refine lv_iload_n hx hb d_OP_endsAtBreak_72 rfl (lv_at hl 3 rfl) ?_
        have h_17 : f12 o = .inr (2, [.ref to, .ref fr, .int P.1, .long P.2.1, .int pl, .int (k_cost (o_bad T F.1 le) pp), .int (o_bad T F.1 le), .int P.2.2.2.2.2]) := by rw [ef12]; exact va_up_self _ _ _
        refine pz_put (ci := 2) (v := .int pl) (ty := .int) (C := "PageMaker$OpenPage") (T := T_OP) (N := 8) hx hb htb in_OP ty_OP to_OP nm_OP hown hK hP hD hS ho h_17 rfl 7 (by decide) (htb _ tw_141) (fun _ h9 => h9) rfl rfl rfl rfl (Nat.le_of_ble_eq_true rfl) d_OP_endsAtBreak_73 (fun f18 H locs ef18 hP hD hS => ?_)
        have ef18 : f18 = va_up f12 o (.inr (2, [.ref to, .ref fr, .int P.1, .long P.2.1, .int pl, .int (k_cost (o_bad T F.1 le) pp), .int (o_bad T F.1 le), .int pl])) := ef18
        refine lv_iconst (v := 1) hx hb d_OP_endsAtBreak_76 (by decide) ?_
        exact pz_iret hx hb hr rfl hlocks hK hP hD hS (Nat.le_of_ble_eq_true rfl) (Nat.le_of_ble_eq_true rfl) ⟨k_b1 (Or.inr c_16), fun _ => by rw [ef18, ef12, ef10, ef8, bx_uu, bx_uu, bx_uu, o_best, if_pos (i32_le c_3)]; rfl, fun h => absurd h (by decide)⟩ d_OP_endsAtBreak_77
      · refine lv_iconst (v := 0) hx hb d_OP_endsAtBreak_69 (by decide) ?_
        exact pz_iret hx hb hr rfl hlocks hK hP hD hS (Nat.le_of_ble_eq_true rfl) (Nat.le_of_ble_eq_true rfl) ⟨k_b0 (fun h => h.elim c_13 c_16), fun h => absurd h (by decide), fun _ => by rw [ef12, ef10, ef8, bx_uu, bx_uu, o_best, if_pos (i32_le c_3)]; rfl⟩ d_OP_endsAtBreak_70
set_option maxHeartbeats 4000000 in
set_option maxRecDepth 100000 in
/-- OpenPage(fr) -/
theorem c_OP_init (l : Launch) (G : gG) (L : List Nat) (f : Nat → va_E) (sz : Nat) (o fr : Nat) (i1 i2 i3 i4 i5 : Int32) (j1 : Int64) (ho : o ∈ L) (hfo : f o = .inr (2, [.null, .null, .int i1, .long j1, .int i2, .int i3, .int i4, .int i5])) (hr9 : fr ∈ L) : mV l y_OP_init w_OP_init ({ frames := 2, cells := 2, slots := 8, locals := 40 }) G L f sz [.ref o, .ref fr] 2 8 (fun u => ∃ to sa, to ∉ L ∧ sa ∉ L ∧ to ≠ sa ∧ u = (L ++ [to] ++ [sa], va_up (va_up (va_up f sa (saE G t_0)) to (toE sa t_0)) o (opE to fr ((-1), 0, (-1), 1073741823, 1073741823, (-1))))) := by
  refine pz_met (cc := prog_8_method_1_code) (maxL := 2) (ret := none) (by decide) rfl (Nat.le_of_ble_eq_true rfl) ?_
  intro p e s m below meth c ls hx hb hr hml hts hown hlocks hin hsz hK hP hD hS hA hz hl
  have htb : ∀ w ∈ TB, w.before _ s = true := fun w h => hts w (List.mem_cons_of_mem _ h)
  have hl : lv_has ls 2 [(0, .ref o), (1, .ref fr)] := hl
  refine lv_aload_n hx hb d_OP_init_0 rfl (lv_at hl 0 rfl) ?_
  refine W.objInit hx hb hown (htb _ tw_89) (htb _ tw_33) (htb _ tw_34) rfl (by rw [hml]; exact hl.1) rfl d_OP_init_1 (Nat.le_of_ble_eq_true rfl) (Nat.le_of_ble_eq_true rfl) ?_
  refine W.eq (g2 := F0 m 4 ls []) rfl ?_
  refine lv_aload_n hx hb d_OP_init_4 rfl (lv_at hl 0 rfl) ?_
  refine pz_new (ci := 3) (fs := [.null, .long 0, .long 0, .long 0]) (C := "PageMaker$Totals") (T := T_TO) (N := 4) hx hb htb in_TO ty_TO to_TO hown (htb _ tw_90) (htb _ tw_91) (htb _ tw_7) hK hP hD hS hA rfl (fun j hj => by rcases (show j = 0 ∨ j = 1 ∨ j = 2 ∨ j = 3 by omega) with rfl | rfl | rfl | rfl <;> rfl) (Nat.le_of_ble_eq_true rfl) (Nat.le_of_ble_eq_true rfl) d_OP_init_5 (fun q1 L2 f3 H hnq1 eL2 ef3 hP hD hS => ?_)
  subst L2
  refine lv_dup hx hb d_OP_init_8 rfl ?_
  have h_4 : f3 q1 = .inr (3, [.null, .long 0, .long 0, .long 0]) := by rw [ef3]; exact va_up_self _ _ _
  refine pz_cv (va_runIN (As := []) (rest := [.ref q1, .ref o]) ⟨hx, hb, hml, hown, hts⟩ (c_TO_init l G (L ++ [q1]) f3 _ q1 0 0 0 (l_in_new _ _) h_4) ⟨va_cnB 0 hts (tb_good tw_94) rfl rfl rfl (hz.1 _ tn_92) (htb _ tw_7) (by decide +kernel) ⟨(Nat.le_of_ble_eq_true rfl), (Nat.le_of_ble_eq_true rfl)⟩, rfl, htb _ tw_93⟩ (pz_pre (zz_ok _ _ _) hK hP hD hS hA hz) rfl rfl hl.1 rfl (lv_room (Nat.le_of_ble_eq_true rfl)) d_OP_init_9 ⟨(Nat.le_of_ble_eq_true rfl), (Nat.le_of_ble_eq_true rfl)⟩) hP hD hS hA (fun L6 f5 H locs hw hP hD hS => ?_)
  obtain ⟨sa, hnsa, hw⟩ := hw
  have eL6 : L6 = (L ++ [q1]) ++ [sa] := (Prod.mk.inj hw).1
  obtain ⟨f7, ef7⟩ : ∃ y, y = va_up f3 sa (.inl (cJ G, 4, .inr (.inl (fun _ => 0)))) := ⟨_, rfl⟩
  subst L6
  have ef5 : f5 = va_up (f7) q1 (.inr (3, [.ref sa, .long t_0.1, .long t_0.2.1, .long t_0.2.2.1])) := (Prod.mk.inj hw).2.trans (by rw [ef7]; rfl)
  have h_10 : f3 o = .inr (2, [.null, .null, .int i1, .long j1, .int i2, .int i3, .int i4, .int i5]) := by rw [ef3, va_up_ne _ _ (Ne.symm (pz_nef hnq1 ho))]; exact hfo
  have h_9 : f7 o = .inr (2, [.null, .null, .int i1, .long j1, .int i2, .int i3, .int i4, .int i5]) := by rw [ef7, va_up_ne _ _ (Ne.symm (pz_nef hnsa (List.mem_append_left _ ho)))]; exact h_10
  have h_8 : f5 o = .inr (2, [.null, .null, .int i1, .long j1, .int i2, .int i3, .int i4, .int i5]) := by rw [ef5, va_up_ne _ _ (Ne.symm (pz_nef hnq1 ho))]; exact h_9
  refine pz_putF (ci := 2) (v := .ref q1) (ty := .object "PageMaker$Totals") (C := "PageMaker$OpenPage") (T := T_OP) (N := 8) hx hb htb in_OP ty_OP to_OP nm_OP hown hK hP hD hS (List.mem_append_left _ (List.mem_append_left _ ho)) h_8 rfl 0 (by decide) (htb _ tw_123) (fun _ h9 => h9) rfl hin rfl rfl rfl rfl (Nat.le_of_ble_eq_true rfl) d_OP_init_12 (fun f11 H locs ef11 hP hD hS => ?_)
  have ef11 : f11 = va_up f5 o (.inr (2, [.ref q1, .null, .int i1, .long j1, .int i2, .int i3, .int i4, .int i5])) := ef11
  refine lv_aload_n hx hb d_OP_init_15 rfl (lv_at hl 0 rfl) ?_
  refine lv_iconst (v := (-1)) hx hb d_OP_init_16 (by decide) ?_
  have h_12 : f11 o = .inr (2, [.ref q1, .null, .int i1, .long j1, .int i2, .int i3, .int i4, .int i5]) := by rw [ef11]; exact va_up_self _ _ _
  refine pz_put (ci := 2) (v := .int (-1)) (ty := .int) (C := "PageMaker$OpenPage") (T := T_OP) (N := 8) hx hb htb in_OP ty_OP to_OP nm_OP hown hK hP hD hS (List.mem_append_left _ (List.mem_append_left _ ho)) h_12 rfl 2 (by decide) (htb _ tw_129) (fun _ h9 => h9) rfl rfl rfl rfl (Nat.le_of_ble_eq_true rfl) d_OP_init_17 (fun f13 H locs ef13 hP hD hS => ?_)
  have ef13 : f13 = va_up f11 o (.inr (2, [.ref q1, .null, .int (-1), .long j1, .int i2, .int i3, .int i4, .int i5])) := ef13
  refine lv_aload_n hx hb d_OP_init_20 rfl (lv_at hl 0 rfl) ?_
  refine lv_lconst (v := 0) hx hb d_OP_init_21 rfl ?_
  have h_14 : f13 o = .inr (2, [.ref q1, .null, .int (-1), .long j1, .int i2, .int i3, .int i4, .int i5]) := by rw [ef13]; exact va_up_self _ _ _
  refine pz_put (ci := 2) (v := .long 0) (ty := .long) (C := "PageMaker$OpenPage") (T := T_OP) (N := 8) hx hb htb in_OP ty_OP to_OP nm_OP hown hK hP hD hS (List.mem_append_left _ (List.mem_append_left _ ho)) h_14 rfl 3 (by decide) (htb _ tw_131) (fun _ h9 => h9) rfl rfl rfl rfl (Nat.le_of_ble_eq_true rfl) d_OP_init_22 (fun f15 H locs ef15 hP hD hS => ?_)
  have ef15 : f15 = va_up f13 o (.inr (2, [.ref q1, .null, .int (-1), .long 0, .int i2, .int i3, .int i4, .int i5])) := ef15
  refine lv_aload_n hx hb d_OP_init_25 rfl (lv_at hl 0 rfl) ?_
  refine lv_iconst (v := (-1)) hx hb d_OP_init_26 (by decide) ?_
  have h_16 : f15 o = .inr (2, [.ref q1, .null, .int (-1), .long 0, .int i2, .int i3, .int i4, .int i5]) := by rw [ef15]; exact va_up_self _ _ _
  refine pz_put (ci := 2) (v := .int (-1)) (ty := .int) (C := "PageMaker$OpenPage") (T := T_OP) (N := 8) hx hb htb in_OP ty_OP to_OP nm_OP hown hK hP hD hS (List.mem_append_left _ (List.mem_append_left _ ho)) h_16 rfl 4 (by decide) (htb _ tw_134) (fun _ h9 => h9) rfl rfl rfl rfl (Nat.le_of_ble_eq_true rfl) d_OP_init_27 (fun f17 H locs ef17 hP hD hS => ?_)
  have ef17 : f17 = va_up f15 o (.inr (2, [.ref q1, .null, .int (-1), .long 0, .int (-1), .int i3, .int i4, .int i5])) := ef17
  refine lv_aload_n hx hb d_OP_init_30 rfl (lv_at hl 0 rfl) ?_
  refine lv_ldc (v := 1073741823) hx hb hown (htb _ tw_122) d_OP_init_31 ?_
  have h_18 : f17 o = .inr (2, [.ref q1, .null, .int (-1), .long 0, .int (-1), .int i3, .int i4, .int i5]) := by rw [ef17]; exact va_up_self _ _ _
  refine pz_put (ci := 2) (v := .int 1073741823) (ty := .int) (C := "PageMaker$OpenPage") (T := T_OP) (N := 8) hx hb htb in_OP ty_OP to_OP nm_OP hown hK hP hD hS (List.mem_append_left _ (List.mem_append_left _ ho)) h_18 rfl 5 (by decide) (htb _ tw_137) (fun _ h9 => h9) rfl rfl rfl rfl (Nat.le_of_ble_eq_true rfl) d_OP_init_33 (fun f19 H locs ef19 hP hD hS => ?_)
  have ef19 : f19 = va_up f17 o (.inr (2, [.ref q1, .null, .int (-1), .long 0, .int (-1), .int 1073741823, .int i4, .int i5])) := ef19
  refine lv_aload_n hx hb d_OP_init_36 rfl (lv_at hl 0 rfl) ?_
  refine lv_ldc (v := 1073741823) hx hb hown (htb _ tw_122) d_OP_init_37 ?_
  have h_20 : f19 o = .inr (2, [.ref q1, .null, .int (-1), .long 0, .int (-1), .int 1073741823, .int i4, .int i5]) := by rw [ef19]; exact va_up_self _ _ _
  refine pz_put (ci := 2) (v := .int 1073741823) (ty := .int) (C := "PageMaker$OpenPage") (T := T_OP) (N := 8) hx hb htb in_OP ty_OP to_OP nm_OP hown hK hP hD hS (List.mem_append_left _ (List.mem_append_left _ ho)) h_20 rfl 6 (by decide) (htb _ tw_140) (fun _ h9 => h9) rfl rfl rfl rfl (Nat.le_of_ble_eq_true rfl) d_OP_init_39 (fun f21 H locs ef21 hP hD hS => ?_)
  have ef21 : f21 = va_up f19 o (.inr (2, [.ref q1, .null, .int (-1), .long 0, .int (-1), .int 1073741823, .int 1073741823, .int i5])) := ef21
  refine lv_aload_n hx hb d_OP_init_42 rfl (lv_at hl 0 rfl) ?_
  refine lv_iconst (v := (-1)) hx hb d_OP_init_43 (by decide) ?_
  have h_22 : f21 o = .inr (2, [.ref q1, .null, .int (-1), .long 0, .int (-1), .int 1073741823, .int 1073741823, .int i5]) := by rw [ef21]; exact va_up_self _ _ _
  refine pz_put (ci := 2) (v := .int (-1)) (ty := .int) (C := "PageMaker$OpenPage") (T := T_OP) (N := 8) hx hb htb in_OP ty_OP to_OP nm_OP hown hK hP hD hS (List.mem_append_left _ (List.mem_append_left _ ho)) h_22 rfl 7 (by decide) (htb _ tw_141) (fun _ h9 => h9) rfl rfl rfl rfl (Nat.le_of_ble_eq_true rfl) d_OP_init_44 (fun f23 H locs ef23 hP hD hS => ?_)
  have ef23 : f23 = va_up f21 o (.inr (2, [.ref q1, .null, .int (-1), .long 0, .int (-1), .int 1073741823, .int 1073741823, .int (-1)])) := ef23
  refine lv_aload_n hx hb d_OP_init_47 rfl (lv_at hl 0 rfl) ?_
  refine lv_aload_n hx hb d_OP_init_48 rfl (lv_at hl 1 rfl) ?_
  have h_24 : f23 o = .inr (2, [.ref q1, .null, .int (-1), .long 0, .int (-1), .int 1073741823, .int 1073741823, .int (-1)]) := by rw [ef23]; exact va_up_self _ _ _
  refine pz_put (ci := 2) (v := .ref fr) (ty := .object "PageMaker$Frame") (C := "PageMaker$OpenPage") (T := T_OP) (N := 8) hx hb htb in_OP ty_OP to_OP nm_OP hown hK hP hD hS (List.mem_append_left _ (List.mem_append_left _ ho)) h_24 rfl 1 (by decide) (htb _ tw_126) (fun _ h9 => h9) rfl rfl rfl rfl (Nat.le_of_ble_eq_true rfl) d_OP_init_49 (fun f25 H locs ef25 hP hD hS => ?_)
  have ef25 : f25 = va_up f23 o (.inr (2, [.ref q1, .ref fr, .int (-1), .long 0, .int (-1), .int 1073741823, .int 1073741823, .int (-1)])) := ef25
  exact pz_vret hx hb hr hlocks hK hP hD hS (Nat.le_of_ble_eq_true rfl) (Nat.le_of_ble_eq_true rfl) ⟨q1, sa, hnq1, fun h9 => hnsa (List.mem_append_left _ h9), Ne.symm (pz_nef hnsa (l_in_new _ _)), by rw [ef25, ef23, ef21, ef19, ef17, ef15, ef13, ef11, ef5, ef7, ef3, bx_uu, bx_uu, bx_uu, bx_uu, bx_uu, bx_uu, bx_uu, pz_up_comm _ _ _ (Ne.symm (pz_nef hnsa (l_in_new _ _))), bx_uu]; rfl⟩ d_OP_init_52
set_option maxHeartbeats 4000000 in
set_option maxRecDepth 100000 in
/-- EndedPage(o, to) -/
theorem c_EP_init (l : Launch) (G : gG) (L : List Nat) (f : Nat → va_E) (sz : Nat) (e9 o to sa to2 fr : Nat) (P : Op) (T T2 : Tt) (F : Fr) (i1 i2 i3 i4 i5 i6 : Int32) (j1 j2 : Int64) (he9 : e9 ∈ L) (hfe : f e9 = .inr (9, [.null, .int i1, .int i2, .int i3, .int i4, .int i5, .long j1, .int i6, .long j2])) (ho : o ∈ L) (hfo : f o = opE to2 fr P) (ht : to ∈ L) (hft : f to = toE sa T) (hs9 : sa ∈ L) (hsa : f sa = saE G T) (hr9 : fr ∈ L) (hfr : f fr = frE F) : mV l y_EP_init w_EP_init ({ frames := 1, cells := 0, slots := 0, locals := 21 }) G L f sz [.ref e9, .ref o, .ref to] 0 0 (fun u => u = (L, va_up f e9 (pgE fr (g_set P F.1 T)))) := by
  refine pz_met (cc := prog_3_method_1_code) (maxL := 3) (ret := none) (by decide) rfl (Nat.le_of_ble_eq_true rfl) ?_
  intro p e s m below meth c ls hx hb hr hml hts hown hlocks hin hsz hK hP hD hS hA hz hl
  have htb : ∀ w ∈ TB, w.before _ s = true := fun w h => hts w (List.mem_cons_of_mem _ h)
  have hl : lv_has ls 3 [(0, .ref e9), (1, .ref o), (2, .ref to)] := hl
  refine lv_aload_n hx hb d_EP_init_0 rfl (lv_at hl 0 rfl) ?_
  refine W.objInit hx hb hown (htb _ tw_486) (htb _ tw_33) (htb _ tw_34) rfl (by rw [hml]; exact hl.1) rfl d_EP_init_1 (Nat.le_of_ble_eq_true rfl) (Nat.le_of_ble_eq_true rfl) ?_
  refine W.eq (g2 := F0 m 4 ls []) rfl ?_
  refine lv_aload_n hx hb d_EP_init_4 rfl (lv_at hl 0 rfl) ?_
  refine lv_aload_n hx hb d_EP_init_5 rfl (lv_at hl 1 rfl) ?_
  refine pz_get (ci := 2) (C := "PageMaker$OpenPage") (T := T_OP) (N := 8) hx hb htb in_OP hown hK hP ho hfo rfl 1 (by decide) (htb _ tw_125) (fun _ h9 => h9) rfl d_EP_init_6 ?_
  refine pz_putF (ci := 9) (v := .ref fr) (ty := .object "PageMaker$Frame") (C := "PageMaker$EndedPage") (T := T_EP) (N := 9) hx hb htb in_EP ty_EP to_EP nm_EP hown hK hP hD hS he9 hfe rfl 0 (by decide) (htb _ tw_488) (fun _ h9 => h9) rfl hin rfl rfl rfl rfl (Nat.le_of_ble_eq_true rfl) d_EP_init_9 (fun f1 H locs ef1 hP hD hS => ?_)
  have ef1 : f1 = va_up f e9 (.inr (9, [.ref fr, .int i1, .int i2, .int i3, .int i4, .int i5, .long j1, .int i6, .long j2])) := ef1
  refine lv_aload_n hx hb d_EP_init_12 rfl (lv_at hl 0 rfl) ?_
  refine lv_aload_n hx hb d_EP_init_13 rfl (lv_at hl 1 rfl) ?_
  have h_2 : f1 o = .inr (2, [.ref to2, .ref fr, .int P.1, .long P.2.1, .int P.2.2.1, .int P.2.2.2.1, .int P.2.2.2.2.1, .int P.2.2.2.2.2]) := by rw [ef1, va_up_ne _ _ (pz_nec hfo hfe (by decide))]; exact hfo
  refine pz_get (ci := 2) (C := "PageMaker$OpenPage") (T := T_OP) (N := 8) hx hb htb in_OP hown hK hP ho h_2 rfl 2 (by decide) (htb _ tw_128) (fun _ h9 => h9) rfl d_EP_init_14 ?_
  have h_3 : f1 e9 = .inr (9, [.ref fr, .int i1, .int i2, .int i3, .int i4, .int i5, .long j1, .int i6, .long j2]) := by rw [ef1]; exact va_up_self _ _ _
  refine pz_putF (ci := 9) (v := .int P.1) (ty := .int) (C := "PageMaker$EndedPage") (T := T_EP) (N := 9) hx hb htb in_EP ty_EP to_EP nm_EP hown hK hP hD hS he9 h_3 rfl 1 (by decide) (htb _ tw_490) (fun _ h9 => h9) rfl hin rfl rfl rfl rfl (Nat.le_of_ble_eq_true rfl) d_EP_init_17 (fun f4 H locs ef4 hP hD hS => ?_)
  have ef4 : f4 = va_up f1 e9 (.inr (9, [.ref fr, .int P.1, .int i2, .int i3, .int i4, .int i5, .long j1, .int i6, .long j2])) := ef4
  refine lv_aload_n hx hb d_EP_init_20 rfl (lv_at hl 0 rfl) ?_
  refine lv_aload_n hx hb d_EP_init_21 rfl (lv_at hl 1 rfl) ?_
  have h_5 : f4 o = .inr (2, [.ref to2, .ref fr, .int P.1, .long P.2.1, .int P.2.2.1, .int P.2.2.2.1, .int P.2.2.2.2.1, .int P.2.2.2.2.2]) := by rw [ef4, va_up_ne _ _ (pz_nec hfo hfe (by decide))]; exact h_2
  refine pz_get (ci := 2) (C := "PageMaker$OpenPage") (T := T_OP) (N := 8) hx hb htb in_OP hown hK hP ho h_5 rfl 4 (by decide) (htb _ tw_133) (fun _ h9 => h9) rfl d_EP_init_22 ?_
  have h_6 : f4 e9 = .inr (9, [.ref fr, .int P.1, .int i2, .int i3, .int i4, .int i5, .long j1, .int i6, .long j2]) := by rw [ef4]; exact va_up_self _ _ _
  refine pz_putF (ci := 9) (v := .int P.2.2.1) (ty := .int) (C := "PageMaker$EndedPage") (T := T_EP) (N := 9) hx hb htb in_EP ty_EP to_EP nm_EP hown hK hP hD hS he9 h_6 rfl 2 (by decide) (htb _ tw_492) (fun _ h9 => h9) rfl hin rfl rfl rfl rfl (Nat.le_of_ble_eq_true rfl) d_EP_init_25 (fun f7 H locs ef7 hP hD hS => ?_)
  have ef7 : f7 = va_up f4 e9 (.inr (9, [.ref fr, .int P.1, .int P.2.2.1, .int i3, .int i4, .int i5, .long j1, .int i6, .long j2])) := ef7
  refine lv_aload_n hx hb d_EP_init_28 rfl (lv_at hl 0 rfl) ?_
  refine lv_aload_n hx hb d_EP_init_29 rfl (lv_at hl 1 rfl) ?_
  have h_8 : f7 o = .inr (2, [.ref to2, .ref fr, .int P.1, .long P.2.1, .int P.2.2.1, .int P.2.2.2.1, .int P.2.2.2.2.1, .int P.2.2.2.2.2]) := by rw [ef7, va_up_ne _ _ (pz_nec hfo hfe (by decide))]; exact h_5
  refine pz_get (ci := 2) (C := "PageMaker$OpenPage") (T := T_OP) (N := 8) hx hb htb in_OP hown hK hP ho h_8 rfl 5 (by decide) (htb _ tw_136) (fun _ h9 => h9) rfl d_EP_init_30 ?_
  have h_9 : f7 e9 = .inr (9, [.ref fr, .int P.1, .int P.2.2.1, .int i3, .int i4, .int i5, .long j1, .int i6, .long j2]) := by rw [ef7]; exact va_up_self _ _ _
  refine pz_putF (ci := 9) (v := .int P.2.2.2.1) (ty := .int) (C := "PageMaker$EndedPage") (T := T_EP) (N := 9) hx hb htb in_EP ty_EP to_EP nm_EP hown hK hP hD hS he9 h_9 rfl 3 (by decide) (htb _ tw_494) (fun _ h9 => h9) rfl hin rfl rfl rfl rfl (Nat.le_of_ble_eq_true rfl) d_EP_init_33 (fun f10 H locs ef10 hP hD hS => ?_)
  have ef10 : f10 = va_up f7 e9 (.inr (9, [.ref fr, .int P.1, .int P.2.2.1, .int P.2.2.2.1, .int i4, .int i5, .long j1, .int i6, .long j2])) := ef10
  refine lv_aload_n hx hb d_EP_init_36 rfl (lv_at hl 0 rfl) ?_
  refine lv_aload_n hx hb d_EP_init_37 rfl (lv_at hl 1 rfl) ?_
  have h_11 : f10 o = .inr (2, [.ref to2, .ref fr, .int P.1, .long P.2.1, .int P.2.2.1, .int P.2.2.2.1, .int P.2.2.2.2.1, .int P.2.2.2.2.2]) := by rw [ef10, va_up_ne _ _ (pz_nec hfo hfe (by decide))]; exact h_8
  refine pz_get (ci := 2) (C := "PageMaker$OpenPage") (T := T_OP) (N := 8) hx hb htb in_OP hown hK hP ho h_11 rfl 6 (by decide) (htb _ tw_139) (fun _ h9 => h9) rfl d_EP_init_38 ?_
  have h_12 : f10 e9 = .inr (9, [.ref fr, .int P.1, .int P.2.2.1, .int P.2.2.2.1, .int i4, .int i5, .long j1, .int i6, .long j2]) := by rw [ef10]; exact va_up_self _ _ _
  refine pz_putF (ci := 9) (v := .int P.2.2.2.2.1) (ty := .int) (C := "PageMaker$EndedPage") (T := T_EP) (N := 9) hx hb htb in_EP ty_EP to_EP nm_EP hown hK hP hD hS he9 h_12 rfl 4 (by decide) (htb _ tw_496) (fun _ h9 => h9) rfl hin rfl rfl rfl rfl (Nat.le_of_ble_eq_true rfl) d_EP_init_41 (fun f13 H locs ef13 hP hD hS => ?_)
  have ef13 : f13 = va_up f10 e9 (.inr (9, [.ref fr, .int P.1, .int P.2.2.1, .int P.2.2.2.1, .int P.2.2.2.2.1, .int i5, .long j1, .int i6, .long j2])) := ef13
  refine lv_aload_n hx hb d_EP_init_44 rfl (lv_at hl 0 rfl) ?_
  refine lv_aload_n hx hb d_EP_init_45 rfl (lv_at hl 1 rfl) ?_
  have h_14 : f13 o = .inr (2, [.ref to2, .ref fr, .int P.1, .long P.2.1, .int P.2.2.1, .int P.2.2.2.1, .int P.2.2.2.2.1, .int P.2.2.2.2.2]) := by rw [ef13, va_up_ne _ _ (pz_nec hfo hfe (by decide))]; exact h_11
  refine pz_get (ci := 2) (C := "PageMaker$OpenPage") (T := T_OP) (N := 8) hx hb htb in_OP hown hK hP ho h_14 rfl 7 (by decide) (htb _ tw_142) (fun _ h9 => h9) rfl d_EP_init_46 ?_
  have h_15 : f13 e9 = .inr (9, [.ref fr, .int P.1, .int P.2.2.1, .int P.2.2.2.1, .int P.2.2.2.2.1, .int i5, .long j1, .int i6, .long j2]) := by rw [ef13]; exact va_up_self _ _ _
  refine pz_putF (ci := 9) (v := .int P.2.2.2.2.2) (ty := .int) (C := "PageMaker$EndedPage") (T := T_EP) (N := 9) hx hb htb in_EP ty_EP to_EP nm_EP hown hK hP hD hS he9 h_15 rfl 5 (by decide) (htb _ tw_498) (fun _ h9 => h9) rfl hin rfl rfl rfl rfl (Nat.le_of_ble_eq_true rfl) d_EP_init_49 (fun f16 H locs ef16 hP hD hS => ?_)
  have ef16 : f16 = va_up f13 e9 (.inr (9, [.ref fr, .int P.1, .int P.2.2.1, .int P.2.2.2.1, .int P.2.2.2.2.1, .int P.2.2.2.2.2, .long j1, .int i6, .long j2])) := ef16
  refine lv_aload_n hx hb d_EP_init_52 rfl (lv_at hl 0 rfl) ?_
  refine lv_aload_n hx hb d_EP_init_53 rfl (lv_at hl 1 rfl) ?_
  have h_17 : f16 o = .inr (2, [.ref to2, .ref fr, .int P.1, .long P.2.1, .int P.2.2.1, .int P.2.2.2.1, .int P.2.2.2.2.1, .int P.2.2.2.2.2]) := by rw [ef16, va_up_ne _ _ (pz_nec hfo hfe (by decide))]; exact h_14
  refine pz_get (ci := 2) (C := "PageMaker$OpenPage") (T := T_OP) (N := 8) hx hb htb in_OP hown hK hP ho h_17 rfl 1 (by decide) (htb _ tw_125) (fun _ h9 => h9) rfl d_EP_init_54 ?_
  have h_23 : f1 fr = .inr (1, [.int F.1, .int F.2.1, .int F.2.2]) := by rw [ef1, va_up_ne _ _ (pz_nec hfr hfe (by decide))]; exact hfr
  have h_22 : f4 fr = .inr (1, [.int F.1, .int F.2.1, .int F.2.2]) := by rw [ef4, va_up_ne _ _ (pz_nec hfr hfe (by decide))]; exact h_23
  have h_21 : f7 fr = .inr (1, [.int F.1, .int F.2.1, .int F.2.2]) := by rw [ef7, va_up_ne _ _ (pz_nec hfr hfe (by decide))]; exact h_22
  have h_20 : f10 fr = .inr (1, [.int F.1, .int F.2.1, .int F.2.2]) := by rw [ef10, va_up_ne _ _ (pz_nec hfr hfe (by decide))]; exact h_21
  have h_19 : f13 fr = .inr (1, [.int F.1, .int F.2.1, .int F.2.2]) := by rw [ef13, va_up_ne _ _ (pz_nec hfr hfe (by decide))]; exact h_20
  have h_18 : f16 fr = .inr (1, [.int F.1, .int F.2.1, .int F.2.2]) := by rw [ef16, va_up_ne _ _ (pz_nec hfr hfe (by decide))]; exact h_19
  refine pz_get (ci := 1) (C := "PageMaker$Frame") (T := T_FR) (N := 3) hx hb htb in_FR hown hK hP hr9 h_18 rfl 0 (by decide) (htb _ tw_71) (fun _ h9 => h9) rfl d_EP_init_57 ?_
  refine lv_i2l hx hb d_EP_init_60 rfl ?_
  refine lv_aload_n hx hb d_EP_init_61 rfl (lv_at hl 2 rfl) ?_
  have h_29 : f1 to = .inr (3, [.ref sa, .long T.1, .long T.2.1, .long T.2.2.1]) := by rw [ef1, va_up_ne _ _ (pz_nec hft hfe (by decide))]; exact hft
  have h_28 : f4 to = .inr (3, [.ref sa, .long T.1, .long T.2.1, .long T.2.2.1]) := by rw [ef4, va_up_ne _ _ (pz_nec hft hfe (by decide))]; exact h_29
  have h_27 : f7 to = .inr (3, [.ref sa, .long T.1, .long T.2.1, .long T.2.2.1]) := by rw [ef7, va_up_ne _ _ (pz_nec hft hfe (by decide))]; exact h_28
  have h_26 : f10 to = .inr (3, [.ref sa, .long T.1, .long T.2.1, .long T.2.2.1]) := by rw [ef10, va_up_ne _ _ (pz_nec hft hfe (by decide))]; exact h_27
  have h_25 : f13 to = .inr (3, [.ref sa, .long T.1, .long T.2.1, .long T.2.2.1]) := by rw [ef13, va_up_ne _ _ (pz_nec hft hfe (by decide))]; exact h_26
  have h_24 : f16 to = .inr (3, [.ref sa, .long T.1, .long T.2.1, .long T.2.2.1]) := by rw [ef16, va_up_ne _ _ (pz_nec hft hfe (by decide))]; exact h_25
  refine pz_get (ci := 3) (C := "PageMaker$Totals") (T := T_TO) (N := 4) hx hb htb in_TO hown hK hP ht h_24 rfl 1 (by decide) (htb _ tw_101) (fun _ h9 => h9) rfl d_EP_init_62 ?_
  refine lv_lsub hx hb d_EP_init_65 ?_
  have h_30 : f16 e9 = .inr (9, [.ref fr, .int P.1, .int P.2.2.1, .int P.2.2.2.1, .int P.2.2.2.2.1, .int P.2.2.2.2.2, .long j1, .int i6, .long j2]) := by rw [ef16]; exact va_up_self _ _ _
  refine pz_putF (ci := 9) (v := .long (F.1.toInt64 - T.1)) (ty := .long) (C := "PageMaker$EndedPage") (T := T_EP) (N := 9) hx hb htb in_EP ty_EP to_EP nm_EP hown hK hP hD hS he9 h_30 rfl 6 (by decide) (htb _ tw_500) (fun _ h9 => h9) rfl hin rfl rfl rfl rfl (Nat.le_of_ble_eq_true rfl) d_EP_init_66 (fun f31 H locs ef31 hP hD hS => ?_)
  have ef31 : f31 = va_up f16 e9 (.inr (9, [.ref fr, .int P.1, .int P.2.2.1, .int P.2.2.2.1, .int P.2.2.2.2.1, .int P.2.2.2.2.2, .long (F.1.toInt64 - T.1), .int i6, .long j2])) := ef31
  refine lv_aload_n hx hb d_EP_init_69 rfl (lv_at hl 0 rfl) ?_
  refine lv_aload_n hx hb d_EP_init_70 rfl (lv_at hl 0 rfl) ?_
  have h_32 : f31 e9 = .inr (9, [.ref fr, .int P.1, .int P.2.2.1, .int P.2.2.2.1, .int P.2.2.2.2.1, .int P.2.2.2.2.2, .long (F.1.toInt64 - T.1), .int i6, .long j2]) := by rw [ef31]; exact va_up_self _ _ _
  refine pz_get (ci := 9) (C := "PageMaker$EndedPage") (T := T_EP) (N := 9) hx hb htb in_EP hown hK hP he9 h_32 rfl 6 (by decide) (htb _ tw_500) (fun _ h9 => h9) rfl d_EP_init_71 ?_
  refine lv_lconst (v := 0) hx hb d_EP_init_74 rfl ?_
  refine pz_lle (tgt := 86) hx hb d_EP_init_75 d_EP_init_76 (by decide) (fun c_33 => ?_) (fun c_33 => ?_)
  · refine lv_iconst (v := 0) hx hb d_EP_init_86 (by decide) ?_
    refine pz_putF (ci := 9) (v := .int 0) (ty := .int) (C := "PageMaker$EndedPage") (T := T_EP) (N := 9) hx hb htb in_EP ty_EP to_EP nm_EP hown hK hP hD hS he9 h_32 rfl 7 (by decide) (htb _ tw_502) (fun _ h9 => h9) rfl hin rfl rfl rfl rfl (Nat.le_of_ble_eq_true rfl) d_EP_init_87 (fun f34 H locs ef34 hP hD hS => ?_)
    have ef34 : f34 = va_up f31 e9 (.inr (9, [.ref fr, .int P.1, .int P.2.2.1, .int P.2.2.2.1, .int P.2.2.2.2.1, .int P.2.2.2.2.2, .long (F.1.toInt64 - T.1), .int 0, .long j2])) := ef34
    refine lv_aload_n hx hb d_EP_init_90 rfl (lv_at hl 0 rfl) ?_
    have h_35 : f34 e9 = .inr (9, [.ref fr, .int P.1, .int P.2.2.1, .int P.2.2.2.1, .int P.2.2.2.2.1, .int P.2.2.2.2.2, .long (F.1.toInt64 - T.1), .int 0, .long j2]) := by rw [ef34]; exact va_up_self _ _ _
    refine pz_get (ci := 9) (C := "PageMaker$EndedPage") (T := T_EP) (N := 9) hx hb htb in_EP hown hK hP he9 h_35 rfl 6 (by decide) (htb _ tw_500) (fun _ h9 => h9) rfl d_EP_init_91 ?_
    refine lv_lconst (v := 0) hx hb d_EP_init_94 rfl ?_
    refine pz_lle (tgt := 115) hx hb d_EP_init_95 d_EP_init_96 (by decide) (fun c_36 => ?_) (fun c_36 => ?_)
    · refine lv_aload_n hx hb d_EP_init_115 rfl (lv_at hl 0 rfl) ?_
      refine lv_aload_n hx hb d_EP_init_116 rfl (lv_at hl 0 rfl) ?_
      refine pz_get (ci := 9) (C := "PageMaker$EndedPage") (T := T_EP) (N := 9) hx hb htb in_EP hown hK hP he9 h_35 rfl 6 (by decide) (htb _ tw_500) (fun _ h9 => h9) rfl d_EP_init_117 ?_
      refine lv_lconst (v := 0) hx hb d_EP_init_120 rfl ?_
      refine pz_lge (tgt := 132) hx hb d_EP_init_121 d_EP_init_122 (by decide) (fun c_37 => ?_) (fun c_37 => ?_)
      · refine lv_lconst (v := 0) hx hb d_EP_init_132 rfl ?_
        refine pz_putF (ci := 9) (v := .long 0) (ty := .long) (C := "PageMaker$EndedPage") (T := T_EP) (N := 9) hx hb htb in_EP ty_EP to_EP nm_EP hown hK hP hD hS he9 h_35 rfl 8 (by decide) (htb _ tw_504) (fun _ h9 => h9) rfl hin rfl rfl rfl rfl (Nat.le_of_ble_eq_true rfl) d_EP_init_133 (fun f38 H locs ef38 hP hD hS => ?_)
        have ef38 : f38 = va_up f34 e9 (.inr (9, [.ref fr, .int P.1, .int P.2.2.1, .int P.2.2.2.1, .int P.2.2.2.2.1, .int P.2.2.2.2.2, .long (F.1.toInt64 - T.1), .int 0, .long 0])) := ef38
        exact pz_vret hx hb hr hlocks hK hP hD hS (Nat.le_of_ble_eq_true rfl) (Nat.le_of_ble_eq_true rfl) (by rw [ef38, ef34, ef31, ef16, ef13, ef10, ef7, ef4, ef1, bx_uu, bx_uu, bx_uu, bx_uu, bx_uu, bx_uu, bx_uu, bx_uu]; simp only [pgE, g_set, k_ord, k_tot, if_neg (k_nlt c_33), if_neg (k_nlt c_37)]) d_EP_init_136
      · refine lv_aload_n hx hb d_EP_init_125 rfl (lv_at hl 2 rfl) ?_
        have h_40 : f31 to = .inr (3, [.ref sa, .long T.1, .long T.2.1, .long T.2.2.1]) := by rw [ef31, va_up_ne _ _ (pz_nec hft hfe (by decide))]; exact h_24
        have h_39 : f34 to = .inr (3, [.ref sa, .long T.1, .long T.2.1, .long T.2.2.1]) := by rw [ef34, va_up_ne _ _ (pz_nec hft hfe (by decide))]; exact h_40
        refine pz_get (ci := 3) (C := "PageMaker$Totals") (T := T_TO) (N := 4) hx hb htb in_TO hown hK hP ht h_39 rfl 3 (by decide) (htb _ tw_109) (fun _ h9 => h9) rfl d_EP_init_126 ?_
        refine lv_goto (tgt := 133) hx hb d_EP_init_129 (by decide) ?_
        refine pz_putF (ci := 9) (v := .long T.2.2.1) (ty := .long) (C := "PageMaker$EndedPage") (T := T_EP) (N := 9) hx hb htb in_EP ty_EP to_EP nm_EP hown hK hP hD hS he9 h_35 rfl 8 (by decide) (htb _ tw_504) (fun _ h9 => h9) rfl hin rfl rfl rfl rfl (Nat.le_of_ble_eq_true rfl) d_EP_init_133 (fun f41 H locs ef41 hP hD hS => ?_)
        have ef41 : f41 = va_up f34 e9 (.inr (9, [.ref fr, .int P.1, .int P.2.2.1, .int P.2.2.2.1, .int P.2.2.2.2.1, .int P.2.2.2.2.2, .long (F.1.toInt64 - T.1), .int 0, .long T.2.2.1])) := ef41
        exact pz_vret hx hb hr hlocks hK hP hD hS (Nat.le_of_ble_eq_true rfl) (Nat.le_of_ble_eq_true rfl) (by rw [ef41, ef34, ef31, ef16, ef13, ef10, ef7, ef4, ef1, bx_uu, bx_uu, bx_uu, bx_uu, bx_uu, bx_uu, bx_uu, bx_uu]; simp only [pgE, g_set, k_ord, k_tot, if_neg (k_nlt c_33), if_pos c_37]) d_EP_init_136
    · exact absurd c_36 (k_nlt c_33)
  · refine lv_aload_n hx hb d_EP_init_79 rfl (lv_at hl 2 rfl) ?_
    have h_42 : f31 to = .inr (3, [.ref sa, .long T.1, .long T.2.1, .long T.2.2.1]) := by rw [ef31, va_up_ne _ _ (pz_nec hft hfe (by decide))]; exact h_24
    have h_49 : f1 sa = .inl (cJ G, 4, .inr (.inl T.2.2.2)) := by rw [ef1, va_up_ne _ _ (pz_nea hsa hfe)]; exact hsa
    have h_48 : f4 sa = .inl (cJ G, 4, .inr (.inl T.2.2.2)) := by rw [ef4, va_up_ne _ _ (pz_nea hsa hfe)]; exact h_49
    have h_47 : f7 sa = .inl (cJ G, 4, .inr (.inl T.2.2.2)) := by rw [ef7, va_up_ne _ _ (pz_nea hsa hfe)]; exact h_48
    have h_46 : f10 sa = .inl (cJ G, 4, .inr (.inl T.2.2.2)) := by rw [ef10, va_up_ne _ _ (pz_nea hsa hfe)]; exact h_47
    have h_45 : f13 sa = .inl (cJ G, 4, .inr (.inl T.2.2.2)) := by rw [ef13, va_up_ne _ _ (pz_nea hsa hfe)]; exact h_46
    have h_44 : f16 sa = .inl (cJ G, 4, .inr (.inl T.2.2.2)) := by rw [ef16, va_up_ne _ _ (pz_nea hsa hfe)]; exact h_45
    have h_43 : f31 sa = .inl (cJ G, 4, .inr (.inl T.2.2.2)) := by rw [ef31, va_up_ne _ _ (pz_nea hsa hfe)]; exact h_44
    refine vp_callSi (va_Run.run (va_runV (As := []) (rest := [.ref e9]) ⟨hx, hb, hml, hown, hts⟩ (c_TO_greatestOrder l G L f31 _ to sa T.1 T.2.1 T.2.2.1 T.2.2.2 ht h_42 hs9 h_43) (cwV 0 hts (tb_V tw_487 tw_423 tw_424 tw_7 tw_425) rfl rfl rfl (by decide +kernel) ⟨(Nat.le_of_ble_eq_true rfl), (Nat.le_of_ble_eq_true rfl)⟩) (pz_preV (zz_ok _ _ _) hK hP hD hS hA hz (ci := 3) rfl rfl ht h_42) rfl rfl hl.1 rfl (lv_room (Nat.le_of_ble_eq_true rfl)) d_EP_init_80 ⟨(Nat.le_of_ble_eq_true rfl), (Nat.le_of_ble_eq_true rfl)⟩)) (fun r50 hw => ?_)
    have hw : r50 = (k_go T.2.2.2) := hw
    subst r50
    refine lv_goto (tgt := 87) hx hb d_EP_init_83 (by decide) ?_
    refine pz_putF (ci := 9) (v := .int (k_go T.2.2.2)) (ty := .int) (C := "PageMaker$EndedPage") (T := T_EP) (N := 9) hx hb htb in_EP ty_EP to_EP nm_EP hown hK hP hD hS he9 h_32 rfl 7 (by decide) (htb _ tw_502) (fun _ h9 => h9) rfl hin rfl rfl rfl rfl (Nat.le_of_ble_eq_true rfl) d_EP_init_87 (fun f51 H locs ef51 hP hD hS => ?_)
    have ef51 : f51 = va_up f31 e9 (.inr (9, [.ref fr, .int P.1, .int P.2.2.1, .int P.2.2.2.1, .int P.2.2.2.2.1, .int P.2.2.2.2.2, .long (F.1.toInt64 - T.1), .int (k_go T.2.2.2), .long j2])) := ef51
    refine lv_aload_n hx hb d_EP_init_90 rfl (lv_at hl 0 rfl) ?_
    have h_52 : f51 e9 = .inr (9, [.ref fr, .int P.1, .int P.2.2.1, .int P.2.2.2.1, .int P.2.2.2.2.1, .int P.2.2.2.2.2, .long (F.1.toInt64 - T.1), .int (k_go T.2.2.2), .long j2]) := by rw [ef51]; exact va_up_self _ _ _
    refine pz_get (ci := 9) (C := "PageMaker$EndedPage") (T := T_EP) (N := 9) hx hb htb in_EP hown hK hP he9 h_52 rfl 6 (by decide) (htb _ tw_500) (fun _ h9 => h9) rfl d_EP_init_91 ?_
    refine lv_lconst (v := 0) hx hb d_EP_init_94 rfl ?_
    refine pz_lle (tgt := 115) hx hb d_EP_init_95 d_EP_init_96 (by decide) (fun c_53 => ?_) (fun c_53 => ?_)
    · exact absurd c_33 (k_nlt c_53)
    · refine lv_aload_n hx hb d_EP_init_99 rfl (lv_at hl 0 rfl) ?_
      refine lv_aload_n hx hb d_EP_init_100 rfl (lv_at hl 2 rfl) ?_
      have h_54 : f51 to = .inr (3, [.ref sa, .long T.1, .long T.2.1, .long T.2.2.1]) := by rw [ef51, va_up_ne _ _ (pz_nec hft hfe (by decide))]; exact h_42
      refine pz_get (ci := 3) (C := "PageMaker$Totals") (T := T_TO) (N := 4) hx hb htb in_TO hown hK hP ht h_54 rfl 0 (by decide) (htb _ tw_97) (fun _ h9 => h9) rfl d_EP_init_101 ?_
      refine lv_aload_n hx hb d_EP_init_104 rfl (lv_at hl 0 rfl) ?_
      refine pz_get (ci := 9) (C := "PageMaker$EndedPage") (T := T_EP) (N := 9) hx hb htb in_EP hown hK hP he9 h_52 rfl 7 (by decide) (htb _ tw_502) (fun _ h9 => h9) rfl d_EP_init_105 ?_
      have h_55 : f51 sa = .inl (cJ G, 4, .inr (.inl T.2.2.2)) := by rw [ef51, va_up_ne _ _ (pz_nea hsa hfe)]; exact h_43
      have hin56 : vp_in (k_go T.2.2.2) 4 := k_go_in _
      refine pz_lald hx hb hK hP 1 hs9 h_55 rfl hin56 d_EP_init_108 ?_
      refine pz_putF (ci := 9) (v := .long (T.2.2.2 (k_go T.2.2.2).toNatClampNeg)) (ty := .long) (C := "PageMaker$EndedPage") (T := T_EP) (N := 9) hx hb htb in_EP ty_EP to_EP nm_EP hown hK hP hD hS he9 h_52 rfl 8 (by decide) (htb _ tw_504) (fun _ h9 => h9) rfl hin rfl rfl rfl rfl (Nat.le_of_ble_eq_true rfl) d_EP_init_109 (fun f57 H locs ef57 hP hD hS => ?_)
      have ef57 : f57 = va_up f51 e9 (.inr (9, [.ref fr, .int P.1, .int P.2.2.1, .int P.2.2.2.1, .int P.2.2.2.2.1, .int P.2.2.2.2.2, .long (F.1.toInt64 - T.1), .int (k_go T.2.2.2), .long (T.2.2.2 (k_go T.2.2.2).toNatClampNeg)])) := ef57
      refine lv_goto (tgt := 136) hx hb d_EP_init_112 (by decide) ?_
      exact pz_vret hx hb hr hlocks hK hP hD hS (Nat.le_of_ble_eq_true rfl) (Nat.le_of_ble_eq_true rfl) (by rw [ef57, ef51, ef31, ef16, ef13, ef10, ef7, ef4, ef1, bx_uu, bx_uu, bx_uu, bx_uu, bx_uu, bx_uu, bx_uu, bx_uu]; simp only [pgE, g_set, k_ord, k_tot, if_pos c_33]) d_EP_init_136
