/-! open pages, ended pages: their methods -/
theorem pz_ito {f : Nat → va_E} {a b j : Nat} {it : It} {y : List Value} (ha : f a = itE it) (hb : f b = .inr (j, y)) (h : j < 5) : a ≠ b := by
  rcases it with ⟨ia, ib⟩ | ⟨ia, ib, io, id9⟩ | ia | ia <;> exact pz_nec ha hb (by omega)
set_option maxHeartbeats 4000000 in
set_option maxRecDepth 100000 in
/-- OpenPage.add(q) -/
theorem c_OP_add (l : Launch) (G : gG) (L : List Nat) (f : Nat → va_E) (sz : Nat) (o to sa fr q : Nat) (P : Op) (T : Tt) (F : Fr) (it : It) (ho : o ∈ L) (hfo : f o = opE to fr P) (ht : to ∈ L) (hft : f to = toE sa T) (hs9 : sa ∈ L) (hsa : f sa = saE G T) (hr9 : fr ∈ L) (hfr : f fr = frE F) (hq : q ∈ L) (hfq : f q = itE it) (hok : itOK it) : mV l y_OP_add w_OP_add ({ frames := 2, cells := 0, slots := 0, locals := 62 }) G L f sz [.ref o, .ref q] 0 0 (fun u => u = (L, va_up (va_up (va_up f o (opE to fr (P.1, T.1, P.2.2))) to (toE sa (t_add it F.2.2 T))) sa (saE G (t_add it F.2.2 T)))) := by
  refine pz_met (cc := prog_8_method_4_code) (maxL := 2) (ret := none) (by decide) rfl (Nat.le_of_ble_eq_true rfl) ?_
  intro p e s m below meth c ls hx hb hr hml hts hown hlocks hin hsz hK hP hD hS hA hz hl
  have htb : ∀ w ∈ TB, w.before _ s = true := fun w h => hts w (List.mem_cons_of_mem _ h)
  have hl : lv_has ls 2 [(0, .ref o), (1, .ref q)] := hl
  have hqo : q ≠ o := pz_ito hfq hfo (by decide)
  refine lv_aload_n hx hb d_OP_add_0 rfl (lv_at hl 0 rfl) ?_
  refine lv_aload_n hx hb d_OP_add_1 rfl (lv_at hl 0 rfl) ?_
  refine pz_get (ci := 2) (C := "PageMaker$OpenPage") (T := T_OP) (N := 8) hx hb htb in_OP hown hK hP ho hfo rfl 0 (by decide) (htb _ tw_123) (fun _ h9 => h9) rfl d_OP_add_2 ?_
  refine pz_get (ci := 3) (C := "PageMaker$Totals") (T := T_TO) (N := 4) hx hb htb in_TO hown hK hP ht hft rfl 1 (by decide) (htb _ tw_103) (fun _ h9 => h9) rfl d_OP_add_5 ?_
  refine pz_put (ci := 2) (v := .long T.1) (ty := .long) (C := "PageMaker$OpenPage") (T := T_OP) (N := 8) hx hb htb in_OP ty_OP to_OP nm_OP hown hK hP hD hS ho hfo rfl 3 (by decide) (htb _ tw_131) (fun _ h9 => h9) rfl rfl rfl rfl (Nat.le_of_ble_eq_true rfl) d_OP_add_8 (fun f1 H locs ef1 hP hD hS => ?_)
  have ef1 : f1 = va_up f o (.inr (2, [.ref to, .ref fr, .int P.1, .long T.1, .int P.2.2.1, .int P.2.2.2.1, .int P.2.2.2.2.1, .int P.2.2.2.2.2])) := ef1
  refine lv_aload_n hx hb d_OP_add_11 rfl (lv_at hl 1 rfl) ?_
  refine lv_aload_n hx hb d_OP_add_12 rfl (lv_at hl 0 rfl) ?_
  have h_2 : f1 o = .inr (2, [.ref to, .ref fr, .int P.1, .long T.1, .int P.2.2.1, .int P.2.2.2.1, .int P.2.2.2.2.1, .int P.2.2.2.2.2]) := by rw [ef1]; exact va_up_self _ _ _
  refine pz_get (ci := 2) (C := "PageMaker$OpenPage") (T := T_OP) (N := 8) hx hb htb in_OP hown hK hP ho h_2 rfl 0 (by decide) (htb _ tw_123) (fun _ h9 => h9) rfl d_OP_add_13 ?_
  refine lv_aload_n hx hb d_OP_add_16 rfl (lv_at hl 0 rfl) ?_
  refine pz_get (ci := 2) (C := "PageMaker$OpenPage") (T := T_OP) (N := 8) hx hb htb in_OP hown hK hP ho h_2 rfl 1 (by decide) (htb _ tw_126) (fun _ h9 => h9) rfl d_OP_add_17 ?_
  have h_3 : f1 q = itE it := by rw [ef1, va_up_ne _ _ hqo]; exact hfq
  have h_4 : f1 to = .inr (3, [.ref sa, .long T.1, .long T.2.1, .long T.2.2.1]) := by rw [ef1, va_up_ne _ _ (pz_nec hft hfo (by decide))]; exact hft
  have h_5 : f1 sa = .inl (cJ G, 4, .inr (.inl T.2.2.2)) := by rw [ef1, va_up_ne _ _ (pz_nea hsa hfo)]; exact hsa
  have h_6 : f1 fr = .inr (1, [.int F.1, .int F.2.1, .int F.2.2]) := by rw [ef1, va_up_ne _ _ (pz_nec hfr hfo (by decide))]; exact hfr
  rcases it with ⟨ia, ib⟩ | ⟨ia, ib, io, id9⟩ | ia | ia
  · refine pz_cv (va_runU (C := "PageMaker$Box") (As := [.ref to, .ref fr]) (rest := []) ⟨hx, hb, hml, hown, hts⟩ (ad_box l G L f1 _ q to sa fr T F ia ib hq h_3 ht h_4 hr9 h_6 hs9 h_5) (va_cwA 2 hts (tb_U tw_533 tw_467 tw_468 tw_469 tw_15 tw_470) rfl rfl rfl (hz.1 _ tn_466) (by decide +kernel) ⟨(Nat.le_of_ble_eq_true rfl), (Nat.le_of_ble_eq_true rfl)⟩) (pz_preV (zz_ok _ _ _) hK hP hD hS hA hz (ci := 5) rfl rfl hq h_3) rfl rfl hl.1 rfl (lv_room (Nat.le_of_ble_eq_true rfl)) d_OP_add_20 ⟨(Nat.le_of_ble_eq_true rfl), (Nat.le_of_ble_eq_true rfl)⟩) hP hD hS hA (fun L8 f7 H locs hw hP hD hS => ?_)
    have ef7 : f7 = va_up (va_up f1 to (toE sa (t_add (.inl (ia, ib)) F.2.2 T))) sa (saE G (t_add (.inl (ia, ib)) F.2.2 T)) := (Prod.mk.inj hw).2
    have eL8 : L8 = L := (Prod.mk.inj hw).1
    subst L8
    obtain ⟨f9, ef9⟩ : ∃ y, y = va_up f1 to (toE sa (t_add (.inl (ia, ib)) F.2.2 T)) := ⟨_, rfl⟩
    rw [← ef9] at ef7
    exact pz_vret hx hb hr hlocks hK hP hD hS (Nat.le_of_ble_eq_true rfl) (Nat.le_of_ble_eq_true rfl) (by rw [ef7, ef9, ef1]; rfl) d_OP_add_23
  · refine pz_cv (va_runU (C := "PageMaker$Glue") (As := [.ref to, .ref fr]) (rest := []) ⟨hx, hb, hml, hown, hts⟩ (ad_glue l G L f1 _ q to sa fr T F ia ib io id9 hq h_3 ht h_4 hr9 h_6 hs9 h_5 hok) (va_cwA 2 hts (tb_U tw_533 tw_467 tw_472 tw_473 tw_23 tw_474) rfl rfl rfl (hz.1 _ tn_466) (by decide +kernel) ⟨(Nat.le_of_ble_eq_true rfl), (Nat.le_of_ble_eq_true rfl)⟩) (pz_preV (zz_ok _ _ _) hK hP hD hS hA hz (ci := 6) rfl rfl hq h_3) rfl rfl hl.1 rfl (lv_room (Nat.le_of_ble_eq_true rfl)) d_OP_add_20 ⟨(Nat.le_of_ble_eq_true rfl), (Nat.le_of_ble_eq_true rfl)⟩) hP hD hS hA (fun L11 f10 H locs hw hP hD hS => ?_)
    have ef10 : f10 = va_up (va_up f1 to (toE sa (t_add (.inr (.inl (ia, ib, io, id9))) F.2.2 T))) sa (saE G (t_add (.inr (.inl (ia, ib, io, id9))) F.2.2 T)) := (Prod.mk.inj hw).2
    have eL11 : L11 = L := (Prod.mk.inj hw).1
    subst L11
    obtain ⟨f12, ef12⟩ : ∃ y, y = va_up f1 to (toE sa (t_add (.inr (.inl (ia, ib, io, id9))) F.2.2 T)) := ⟨_, rfl⟩
    rw [← ef12] at ef10
    exact pz_vret hx hb hr hlocks hK hP hD hS (Nat.le_of_ble_eq_true rfl) (Nat.le_of_ble_eq_true rfl) (by rw [ef10, ef12, ef1]; rfl) d_OP_add_23
  · refine pz_cv (va_runU (C := "PageMaker$Kern") (As := [.ref to, .ref fr]) (rest := []) ⟨hx, hb, hml, hown, hts⟩ (ad_kern l G L f1 _ q to sa fr T F ia hq h_3 ht h_4 hs9 h_5) (va_cwA 2 hts (tb_U tw_533 tw_467 tw_476 tw_477 tw_24 tw_478) rfl rfl rfl (hz.1 _ tn_466) (by decide +kernel) ⟨(Nat.le_of_ble_eq_true rfl), (Nat.le_of_ble_eq_true rfl)⟩) (pz_preV (zz_ok _ _ _) hK hP hD hS hA hz (ci := 7) rfl rfl hq h_3) rfl rfl hl.1 rfl (lv_room (Nat.le_of_ble_eq_true rfl)) d_OP_add_20 ⟨(Nat.le_of_ble_eq_true rfl), (Nat.le_of_ble_eq_true rfl)⟩) hP hD hS hA (fun L14 f13 H locs hw hP hD hS => ?_)
    have ef13 : f13 = va_up (va_up f1 to (toE sa (t_add (.inr (.inr (.inl ia))) F.2.2 T))) sa (saE G (t_add (.inr (.inr (.inl ia))) F.2.2 T)) := (Prod.mk.inj hw).2
    have eL14 : L14 = L := (Prod.mk.inj hw).1
    subst L14
    obtain ⟨f15, ef15⟩ : ∃ y, y = va_up f1 to (toE sa (t_add (.inr (.inr (.inl ia))) F.2.2 T)) := ⟨_, rfl⟩
    rw [← ef15] at ef13
    exact pz_vret hx hb hr hlocks hK hP hD hS (Nat.le_of_ble_eq_true rfl) (Nat.le_of_ble_eq_true rfl) (by rw [ef13, ef15, ef1]; rfl) d_OP_add_23
  · refine pz_cv (va_runU (C := "PageMaker$Penalty") (As := [.ref to, .ref fr]) (rest := []) ⟨hx, hb, hml, hown, hts⟩ (ad_pen l G L f1 _ q to sa fr T F ia h_4 h_5) (va_cwA 2 hts (tb_U tw_533 tw_467 tw_480 tw_481 tw_25 tw_482) rfl rfl rfl (hz.1 _ tn_466) (by decide +kernel) ⟨(Nat.le_of_ble_eq_true rfl), (Nat.le_of_ble_eq_true rfl)⟩) (pz_preV (zz_ok _ _ _) hK hP hD hS hA hz (ci := 8) rfl rfl hq h_3) rfl rfl hl.1 rfl (lv_room (Nat.le_of_ble_eq_true rfl)) d_OP_add_20 ⟨(Nat.le_of_ble_eq_true rfl), (Nat.le_of_ble_eq_true rfl)⟩) hP hD hS hA (fun L17 f16 H locs hw hP hD hS => ?_)
    have ef16 : f16 = va_up (va_up f1 to (toE sa (t_add (.inr (.inr (.inr ia))) F.2.2 T))) sa (saE G (t_add (.inr (.inr (.inr ia))) F.2.2 T)) := (Prod.mk.inj hw).2
    have eL17 : L17 = L := (Prod.mk.inj hw).1
    subst L17
    obtain ⟨f18, ef18⟩ : ∃ y, y = va_up f1 to (toE sa (t_add (.inr (.inr (.inr ia))) F.2.2 T)) := ⟨_, rfl⟩
    rw [← ef18] at ef16
    exact pz_vret hx hb hr hlocks hK hP hD hS (Nat.le_of_ble_eq_true rfl) (Nat.le_of_ble_eq_true rfl) (by rw [ef16, ef18, ef1]; rfl) d_OP_add_23
set_option maxHeartbeats 4000000 in
set_option maxRecDepth 100000 in
/-- OpenPage.begin(pl, q, fr2) -/
theorem c_OP_begin (l : Launch) (G : gG) (L : List Nat) (f : Nat → va_E) (sz : Nat) (o to sa fr fr2 q : Nat) (P : Op) (T : Tt) (F F2 : Fr) (pl b0 b1 : Int32) (ho : o ∈ L) (hfo : f o = opE to fr P) (ht : to ∈ L) (hft : f to = toE sa T) (hs9 : sa ∈ L) (hsa : f sa = saE G T) (hr9 : fr ∈ L) (hfr : f fr = frE F) (hr8 : fr2 ∈ L) (hfr2 : f fr2 = frE F2) (hq : q ∈ L) (hfq : f q = itE (.inl (b0, b1))) : mV l y_OP_begin w_OP_begin ({ frames := 3, cells := 0, slots := 0, locals := 83 }) G L f sz [.ref o, .int pl, .ref q, .ref fr2] 0 0 (fun u => u = (L, va_up (va_up (va_up f o (opE to fr2 (pl, (t_sp (k_top F2.2.1 b0) T).1, P.2.2))) to (toE sa (t_add (.inl (b0, b1)) F2.2.2 (t_sp (k_top F2.2.1 b0) T)))) sa (saE G (t_add (.inl (b0, b1)) F2.2.2 (t_sp (k_top F2.2.1 b0) T))))) := by
  refine pz_met (cc := prog_8_method_3_code) (maxL := 4) (ret := none) (by decide) rfl (Nat.le_of_ble_eq_true rfl) ?_
  intro p e s m below meth c ls hx hb hr hml hts hown hlocks hin hsz hK hP hD hS hA hz hl
  have htb : ∀ w ∈ TB, w.before _ s = true := fun w h => hts w (List.mem_cons_of_mem _ h)
  have hl : lv_has ls 4 [(0, .ref o), (1, .int pl), (2, .ref q), (3, .ref fr2)] := hl
  refine lv_aload_n hx hb d_OP_begin_0 rfl (lv_at hl 0 rfl) ?_
  refine lv_iload_n hx hb d_OP_begin_1 rfl (lv_at hl 1 rfl) ?_
  refine pz_put (ci := 2) (v := .int pl) (ty := .int) (C := "PageMaker$OpenPage") (T := T_OP) (N := 8) hx hb htb in_OP ty_OP to_OP nm_OP hown hK hP hD hS ho hfo rfl 2 (by decide) (htb _ tw_129) (fun _ h9 => h9) rfl rfl rfl rfl (Nat.le_of_ble_eq_true rfl) d_OP_begin_2 (fun f1 H locs ef1 hP hD hS => ?_)
  have ef1 : f1 = va_up f o (.inr (2, [.ref to, .ref fr, .int pl, .long P.2.1, .int P.2.2.1, .int P.2.2.2.1, .int P.2.2.2.2.1, .int P.2.2.2.2.2])) := ef1
  refine lv_aload_n hx hb d_OP_begin_5 rfl (lv_at hl 0 rfl) ?_
  refine lv_aload_n hx hb d_OP_begin_6 rfl (lv_at hl 3 rfl) ?_
  have h_2 : f1 o = .inr (2, [.ref to, .ref fr, .int pl, .long P.2.1, .int P.2.2.1, .int P.2.2.2.1, .int P.2.2.2.2.1, .int P.2.2.2.2.2]) := by rw [ef1]; exact va_up_self _ _ _
  refine pz_put (ci := 2) (v := .ref fr2) (ty := .object "PageMaker$Frame") (C := "PageMaker$OpenPage") (T := T_OP) (N := 8) hx hb htb in_OP ty_OP to_OP nm_OP hown hK hP hD hS ho h_2 rfl 1 (by decide) (htb _ tw_126) (fun _ h9 => h9) rfl rfl rfl rfl (Nat.le_of_ble_eq_true rfl) d_OP_begin_7 (fun f3 H locs ef3 hP hD hS => ?_)
  have ef3 : f3 = va_up f1 o (.inr (2, [.ref to, .ref fr2, .int pl, .long P.2.1, .int P.2.2.1, .int P.2.2.2.1, .int P.2.2.2.2.1, .int P.2.2.2.2.2])) := ef3
  refine lv_aload_n hx hb d_OP_begin_10 rfl (lv_at hl 0 rfl) ?_
  have h_4 : f3 o = .inr (2, [.ref to, .ref fr2, .int pl, .long P.2.1, .int P.2.2.1, .int P.2.2.2.1, .int P.2.2.2.2.1, .int P.2.2.2.2.2]) := by rw [ef3]; exact va_up_self _ _ _
  refine pz_get (ci := 2) (C := "PageMaker$OpenPage") (T := T_OP) (N := 8) hx hb htb in_OP hown hK hP ho h_4 rfl 0 (by decide) (htb _ tw_123) (fun _ h9 => h9) rfl d_OP_begin_11 ?_
  refine lv_aload_n hx hb d_OP_begin_14 rfl (lv_at hl 0 rfl) ?_
  refine pz_get (ci := 2) (C := "PageMaker$OpenPage") (T := T_OP) (N := 8) hx hb htb in_OP hown hK hP ho h_4 rfl 1 (by decide) (htb _ tw_126) (fun _ h9 => h9) rfl d_OP_begin_15 ?_
  refine lv_aload_n hx hb d_OP_begin_18 rfl (lv_at hl 2 rfl) ?_
  have h_6 : f1 to = .inr (3, [.ref sa, .long T.1, .long T.2.1, .long T.2.2.1]) := by rw [ef1, va_up_ne _ _ (pz_nec hft hfo (by decide))]; exact hft
  have h_5 : f3 to = .inr (3, [.ref sa, .long T.1, .long T.2.1, .long T.2.2.1]) := by rw [ef3, va_up_ne _ _ (pz_nec hft hfo (by decide))]; exact h_6
  have h_8 : f1 fr2 = .inr (1, [.int F2.1, .int F2.2.1, .int F2.2.2]) := by rw [ef1, va_up_ne _ _ (pz_nec hfr2 hfo (by decide))]; exact hfr2
  have h_7 : f3 fr2 = .inr (1, [.int F2.1, .int F2.2.1, .int F2.2.2]) := by rw [ef3, va_up_ne _ _ (pz_nec hfr2 hfo (by decide))]; exact h_8
  have h_10 : f1 q = .inr (5, [.int b0, .int b1]) := by rw [ef1, va_up_ne _ _ (pz_nec hfq hfo (by decide))]; exact hfq
  have h_9 : f3 q = .inr (5, [.int b0, .int b1]) := by rw [ef3, va_up_ne _ _ (pz_nec hfq hfo (by decide))]; exact h_10
  refine pz_cv (va_runV (As := [.ref fr2, .ref q]) (rest := []) ⟨hx, hb, hml, hown, hts⟩ (c_TO_addTopGlue l G L f3 _ to sa fr2 q T.1 T.2.1 T.2.2.1 F2.1 F2.2.1 F2.2.2 b0 b1 ht h_5 hr8 h_7 hq h_9) (cwV 2 hts (tb_V tw_538 tw_455 tw_456 tw_7 tw_457) rfl rfl rfl (by decide +kernel) ⟨(Nat.le_of_ble_eq_true rfl), (Nat.le_of_ble_eq_true rfl)⟩) (pz_preV (zz_ok _ _ _) hK hP hD hS hA hz (ci := 3) rfl rfl ht h_5) rfl rfl hl.1 rfl (lv_room (Nat.le_of_ble_eq_true rfl)) d_OP_begin_19 ⟨(Nat.le_of_ble_eq_true rfl), (Nat.le_of_ble_eq_true rfl)⟩) hP hD hS hA (fun L12 f11 H locs hw hP hD hS => ?_)
  have ef11 : f11 = va_up (f3) to (toE sa (t_sp (k_top F2.2.1 b0) T)) := (Prod.mk.inj hw).2
  have eL12 : L12 = L := (Prod.mk.inj hw).1
  subst L12
  refine lv_aload_n hx hb d_OP_begin_22 rfl (lv_at hl 0 rfl) ?_
  refine lv_aload_n hx hb d_OP_begin_23 rfl (lv_at hl 2 rfl) ?_
  have h_13 : f11 o = .inr (2, [.ref to, .ref fr2, .int pl, .long P.2.1, .int P.2.2.1, .int P.2.2.2.1, .int P.2.2.2.2.1, .int P.2.2.2.2.2]) := by rw [ef11, va_up_ne _ _ (Ne.symm (pz_nec hft hfo (by decide)))]; exact h_4
  have h_14 : f11 to = .inr (3, [.ref sa, .long ((t_sp (k_top F2.2.1 b0) T).1), .long ((t_sp (k_top F2.2.1 b0) T).2.1), .long ((t_sp (k_top F2.2.1 b0) T).2.2.1)]) := by rw [ef11]; exact va_up_self _ _ _
  have h_17 : f1 sa = .inl (cJ G, 4, .inr (.inl T.2.2.2)) := by rw [ef1, va_up_ne _ _ (pz_nea hsa hfo)]; exact hsa
  have h_16 : f3 sa = .inl (cJ G, 4, .inr (.inl T.2.2.2)) := by rw [ef3, va_up_ne _ _ (pz_nea hsa hfo)]; exact h_17
  have h_15 : f11 sa = .inl (cJ G, 4, .inr (.inl T.2.2.2)) := by rw [ef11, va_up_ne _ _ (pz_nea hsa hft)]; exact h_16
  have h_18 : f11 fr2 = .inr (1, [.int F2.1, .int F2.2.1, .int F2.2.2]) := by rw [ef11, va_up_ne _ _ (pz_nec hfr2 hft (by decide))]; exact h_7
  have h_19 : f11 q = .inr (5, [.int b0, .int b1]) := by rw [ef11, va_up_ne _ _ (pz_nec hfq hft (by decide))]; exact h_9
  refine pz_cv (va_runV (As := [.ref q]) (rest := []) ⟨hx, hb, hml, hown, hts⟩ (c_OP_add l G L f11 _ o to sa fr2 q (pl, P.2) (t_sp (k_top F2.2.1 b0) T) F2 (.inl (b0, b1)) ho h_13 ht h_14 hs9 h_15 hr8 h_18 hq h_19 trivial) (cwV 1 hts (tb_V tw_539 tw_530 tw_531 tw_6 tw_532) rfl rfl rfl (by decide +kernel) ⟨(Nat.le_of_ble_eq_true rfl), (Nat.le_of_ble_eq_true rfl)⟩) (pz_preV (zz_ok _ _ _) hK hP hD hS hA hz (ci := 2) rfl rfl ho h_13) rfl rfl hl.1 rfl (lv_room (Nat.le_of_ble_eq_true rfl)) d_OP_begin_24 ⟨(Nat.le_of_ble_eq_true rfl), (Nat.le_of_ble_eq_true rfl)⟩) hP hD hS hA (fun L21 f20 H locs hw hP hD hS => ?_)
  have ef20 : f20 = va_up (va_up (va_up (f11) o (opE to fr2 (pl, (t_sp (k_top F2.2.1 b0) T).1, P.2.2))) to (toE sa (t_add (.inl (b0, b1)) F2.2.2 (t_sp (k_top F2.2.1 b0) T)))) sa (saE G (t_add (.inl (b0, b1)) F2.2.2 (t_sp (k_top F2.2.1 b0) T))) := (Prod.mk.inj hw).2
  have eL21 : L21 = L := (Prod.mk.inj hw).1
  subst L21
  obtain ⟨f22, ef22⟩ : ∃ y, y = va_up f11 o (opE to fr2 (pl, (t_sp (k_top F2.2.1 b0) T).1, P.2.2)) := ⟨_, rfl⟩
  rw [← ef22] at ef20
  obtain ⟨f23, ef23⟩ : ∃ y, y = va_up f22 to (toE sa (t_add (.inl (b0, b1)) F2.2.2 (t_sp (k_top F2.2.1 b0) T))) := ⟨_, rfl⟩
  rw [← ef23] at ef20
  exact pz_vret hx hb hr hlocks hK hP hD hS (Nat.le_of_ble_eq_true rfl) (Nat.le_of_ble_eq_true rfl) (by rw [ef20, ef23, ef22, ef11, ef3, ef1, pz_up_comm _ _ _ (pz_nec hft hfo (by decide)), bx_uu, bx_uu, bx_uu]) d_OP_begin_27
