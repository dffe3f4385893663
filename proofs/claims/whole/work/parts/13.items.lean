/-! constructors of items and totals; what items add -/
theorem pz_nec {f : Nat → va_E} {a b i j : Nat} {x y : List Value} (ha : f a = .inr (i, x)) (hb : f b = .inr (j, y)) (h : i ≠ j) : a ≠ b := fun e => by
  rw [e, hb] at ha
  exact h (congrArg Prod.fst (Sum.inr.inj ha)).symm
theorem pz_nef {q a : Nat} {L : List Nat} (hn : q ∉ L) (ha : a ∈ L) : q ≠ a := fun e => hn (e ▸ ha)
theorem pz_nea {f : Nat → va_E} {a b : Nat} {x : ClassId × vp_A} {y : Nat × List Value} (ha : f a = .inl x) (hb : f b = .inr y) : a ≠ b := fun e => by
  rw [e, hb] at ha
  cases ha
set_option maxHeartbeats 4000000 in
set_option maxRecDepth 100000 in
/-- Item() -/
theorem c_IT_init (l : Launch) (G : gG) (L : List Nat) (f : Nat → va_E) (sz : Nat) (q : Nat) : mV l y_IT_init w_IT_init ({ frames := 1, cells := 0, slots := 0, locals := 20 }) G L f sz [.ref q] 0 0 (fun u => u = (L, f)) := by
  refine pz_met (cc := prog_6_method_1_code) (maxL := 1) (ret := none) (by decide) rfl (Nat.le_of_ble_eq_true rfl) ?_
  intro p e s m below meth c ls hx hb hr hml hts hown hlocks hin hsz hK hP hD hS hA hz hl
  have htb : ∀ w ∈ TB, w.before _ s = true := fun w h => hts w (List.mem_cons_of_mem _ h)
  have hl : lv_has ls 1 [(0, .ref q)] := hl
  refine lv_aload_n hx hb d_IT_init_0 rfl (lv_at hl 0 rfl) ?_
  refine W.objInit hx hb hown (htb _ tw_306) (htb _ tw_33) (htb _ tw_34) rfl (by rw [hml]; exact hl.1) rfl d_IT_init_1 (Nat.le_of_ble_eq_true rfl) (Nat.le_of_ble_eq_true rfl) ?_
  refine W.eq (g2 := F0 m 4 ls []) rfl ?_
  exact pz_vret hx hb hr hlocks hK hP hD hS (Nat.le_of_ble_eq_true rfl) (Nat.le_of_ble_eq_true rfl) rfl d_IT_init_4
set_option maxHeartbeats 4000000 in
set_option maxRecDepth 100000 in
/-- PageMaker$Box(..) -/
theorem c_BX_init (l : Launch) (G : gG) (L : List Nat) (f : Nat → va_E) (sz : Nat) (q : Nat) (o0 o1 b0 b1 : Int32) (hq : q ∈ L) (hf : f q = .inr (5, [.int o0, .int o1])) : mV l y_BX_init w_BX_init ({ frames := 2, cells := 0, slots := 0, locals := 40 }) G L f sz [.ref q, .int b0, .int b1] 0 0 (fun u => u = (L, va_up f q (.inr (5, [.int b0, .int b1])))) := by
  refine pz_met (cc := prog_2_method_1_code) (maxL := 3) (ret := none) (by decide) rfl (Nat.le_of_ble_eq_true rfl) ?_
  intro p e s m below meth c ls hx hb hr hml hts hown hlocks hin hsz hK hP hD hS hA hz hl
  have htb : ∀ w ∈ TB, w.before _ s = true := fun w h => hts w (List.mem_cons_of_mem _ h)
  have hl : lv_has ls 3 [(0, .ref q), (1, .int b0), (2, .int b1)] := hl
  refine lv_aload_n hx hb d_BX_init_0 rfl (lv_at hl 0 rfl) ?_
  refine pz_cv (va_runIN (As := []) (rest := []) ⟨hx, hb, hml, hown, hts⟩ (c_IT_init l G L f _ q) ⟨va_cnB 0 hts (tb_good tw_305) rfl rfl rfl (hz.1 _ tn_303) (htb _ tw_14) (by decide +kernel) ⟨(Nat.le_of_ble_eq_true rfl), (Nat.le_of_ble_eq_true rfl)⟩, rfl, htb _ tw_304⟩ (pz_pre (zz_ok _ _ _) hK hP hD hS hA hz) rfl rfl hl.1 rfl (lv_room (Nat.le_of_ble_eq_true rfl)) d_BX_init_1 ⟨(Nat.le_of_ble_eq_true rfl), (Nat.le_of_ble_eq_true rfl)⟩) hP hD hS hA (fun L2 f1 H locs hw hP hD hS => ?_)
  have ef1 : f1 = f := (Prod.mk.inj hw).2
  have eL2 : L2 = L := (Prod.mk.inj hw).1
  subst L2
  subst f1
  refine lv_aload_n hx hb d_BX_init_4 rfl (lv_at hl 0 rfl) ?_
  refine lv_iload_n hx hb d_BX_init_5 rfl (lv_at hl 1 rfl) ?_
  refine pz_putF (ci := 5) (v := .int b0) (ty := .int) (C := "PageMaker$Box") (T := T_BX) (N := 2) hx hb htb in_BX ty_BX to_BX nm_BX hown hK hP hD hS hq hf rfl 0 (by decide) (htb _ tw_307) (fun _ h9 => h9) rfl hin rfl rfl rfl rfl (Nat.le_of_ble_eq_true rfl) d_BX_init_6 (fun f3 H locs ef3 hP hD hS => ?_)
  have ef3 : f3 = va_up f q (.inr (5, [.int b0, .int o1])) := ef3
  refine lv_aload_n hx hb d_BX_init_9 rfl (lv_at hl 0 rfl) ?_
  refine lv_iload_n hx hb d_BX_init_10 rfl (lv_at hl 2 rfl) ?_
  have h_4 : f3 q = .inr (5, [.int b0, .int o1]) := by rw [ef3]; exact va_up_self _ _ _
  refine pz_putF (ci := 5) (v := .int b1) (ty := .int) (C := "PageMaker$Box") (T := T_BX) (N := 2) hx hb htb in_BX ty_BX to_BX nm_BX hown hK hP hD hS hq h_4 rfl 1 (by decide) (htb _ tw_310) (fun _ h9 => h9) rfl hin rfl rfl rfl rfl (Nat.le_of_ble_eq_true rfl) d_BX_init_11 (fun f5 H locs ef5 hP hD hS => ?_)
  have ef5 : f5 = va_up f3 q (.inr (5, [.int b0, .int b1])) := ef5
  exact pz_vret hx hb hr hlocks hK hP hD hS (Nat.le_of_ble_eq_true rfl) (Nat.le_of_ble_eq_true rfl) (by rw [ef5, ef3, bx_uu]) d_BX_init_14
set_option maxHeartbeats 4000000 in
set_option maxRecDepth 100000 in
/-- PageMaker$Glue(..) -/
theorem c_GL_init (l : Launch) (G : gG) (L : List Nat) (f : Nat → va_E) (sz : Nat) (q : Nat) (o0 o1 o2 o3 b0 b1 b2 b3 : Int32) (hq : q ∈ L) (hf : f q = .inr (6, [.int o0, .int o1, .int o2, .int o3])) : mV l y_GL_init w_GL_init ({ frames := 2, cells := 0, slots := 0, locals := 40 }) G L f sz [.ref q, .int b0, .int b1, .int b2, .int b3] 0 0 (fun u => u = (L, va_up f q (.inr (6, [.int b0, .int b1, .int b2, .int b3])))) := by
  refine pz_met (cc := prog_5_method_1_code) (maxL := 5) (ret := none) (by decide) rfl (Nat.le_of_ble_eq_true rfl) ?_
  intro p e s m below meth c ls hx hb hr hml hts hown hlocks hin hsz hK hP hD hS hA hz hl
  have htb : ∀ w ∈ TB, w.before _ s = true := fun w h => hts w (List.mem_cons_of_mem _ h)
  have hl : lv_has ls 5 [(0, .ref q), (1, .int b0), (2, .int b1), (3, .int b2), (4, .int b3)] := hl
  refine lv_aload_n hx hb d_GL_init_0 rfl (lv_at hl 0 rfl) ?_
  refine pz_cv (va_runIN (As := []) (rest := []) ⟨hx, hb, hml, hown, hts⟩ (c_IT_init l G L f _ q) ⟨va_cnB 0 hts (tb_good tw_305) rfl rfl rfl (hz.1 _ tn_553) (htb _ tw_14) (by decide +kernel) ⟨(Nat.le_of_ble_eq_true rfl), (Nat.le_of_ble_eq_true rfl)⟩, rfl, htb _ tw_304⟩ (pz_pre (zz_ok _ _ _) hK hP hD hS hA hz) rfl rfl hl.1 rfl (lv_room (Nat.le_of_ble_eq_true rfl)) d_GL_init_1 ⟨(Nat.le_of_ble_eq_true rfl), (Nat.le_of_ble_eq_true rfl)⟩) hP hD hS hA (fun L2 f1 H locs hw hP hD hS => ?_)
  have ef1 : f1 = f := (Prod.mk.inj hw).2
  have eL2 : L2 = L := (Prod.mk.inj hw).1
  subst L2
  subst f1
  refine lv_aload_n hx hb d_GL_init_4 rfl (lv_at hl 0 rfl) ?_
  refine lv_iload_n hx hb d_GL_init_5 rfl (lv_at hl 1 rfl) ?_
  refine pz_putF (ci := 6) (v := .int b0) (ty := .int) (C := "PageMaker$Glue") (T := T_GL) (N := 4) hx hb htb in_GL ty_GL to_GL nm_GL hown hK hP hD hS hq hf rfl 0 (by decide) (htb _ tw_554) (fun _ h9 => h9) rfl hin rfl rfl rfl rfl (Nat.le_of_ble_eq_true rfl) d_GL_init_6 (fun f3 H locs ef3 hP hD hS => ?_)
  have ef3 : f3 = va_up f q (.inr (6, [.int b0, .int o1, .int o2, .int o3])) := ef3
  refine lv_aload_n hx hb d_GL_init_9 rfl (lv_at hl 0 rfl) ?_
  refine lv_iload_n hx hb d_GL_init_10 rfl (lv_at hl 2 rfl) ?_
  have h_4 : f3 q = .inr (6, [.int b0, .int o1, .int o2, .int o3]) := by rw [ef3]; exact va_up_self _ _ _
  refine pz_putF (ci := 6) (v := .int b1) (ty := .int) (C := "PageMaker$Glue") (T := T_GL) (N := 4) hx hb htb in_GL ty_GL to_GL nm_GL hown hK hP hD hS hq h_4 rfl 1 (by decide) (htb _ tw_555) (fun _ h9 => h9) rfl hin rfl rfl rfl rfl (Nat.le_of_ble_eq_true rfl) d_GL_init_11 (fun f5 H locs ef5 hP hD hS => ?_)
  have ef5 : f5 = va_up f3 q (.inr (6, [.int b0, .int b1, .int o2, .int o3])) := ef5
  refine lv_aload_n hx hb d_GL_init_14 rfl (lv_at hl 0 rfl) ?_
  refine lv_iload_n hx hb d_GL_init_15 rfl (lv_at hl 3 rfl) ?_
  have h_6 : f5 q = .inr (6, [.int b0, .int b1, .int o2, .int o3]) := by rw [ef5]; exact va_up_self _ _ _
  refine pz_putF (ci := 6) (v := .int b2) (ty := .int) (C := "PageMaker$Glue") (T := T_GL) (N := 4) hx hb htb in_GL ty_GL to_GL nm_GL hown hK hP hD hS hq h_6 rfl 2 (by decide) (htb _ tw_556) (fun _ h9 => h9) rfl hin rfl rfl rfl rfl (Nat.le_of_ble_eq_true rfl) d_GL_init_16 (fun f7 H locs ef7 hP hD hS => ?_)
  have ef7 : f7 = va_up f5 q (.inr (6, [.int b0, .int b1, .int b2, .int o3])) := ef7
  refine lv_aload_n hx hb d_GL_init_19 rfl (lv_at hl 0 rfl) ?_
  refine lv_iload hx hb d_GL_init_20 (lv_at hl 4 rfl) ?_
  have h_8 : f7 q = .inr (6, [.int b0, .int b1, .int b2, .int o3]) := by rw [ef7]; exact va_up_self _ _ _
  refine pz_putF (ci := 6) (v := .int b3) (ty := .int) (C := "PageMaker$Glue") (T := T_GL) (N := 4) hx hb htb in_GL ty_GL to_GL nm_GL hown hK hP hD hS hq h_8 rfl 3 (by decide) (htb _ tw_557) (fun _ h9 => h9) rfl hin rfl rfl rfl rfl (Nat.le_of_ble_eq_true rfl) d_GL_init_22 (fun f9 H locs ef9 hP hD hS => ?_)
  have ef9 : f9 = va_up f7 q (.inr (6, [.int b0, .int b1, .int b2, .int b3])) := ef9
  exact pz_vret hx hb hr hlocks hK hP hD hS (Nat.le_of_ble_eq_true rfl) (Nat.le_of_ble_eq_true rfl) (by rw [ef9, ef7, ef5, ef3, bx_uu, bx_uu, bx_uu]) d_GL_init_25
set_option maxHeartbeats 4000000 in
set_option maxRecDepth 100000 in
/-- PageMaker$Kern(..) -/
theorem c_KE_init (l : Launch) (G : gG) (L : List Nat) (f : Nat → va_E) (sz : Nat) (q : Nat) (o0 b0 : Int32) (hq : q ∈ L) (hf : f q = .inr (7, [.int o0])) : mV l y_KE_init w_KE_init ({ frames := 2, cells := 0, slots := 0, locals := 40 }) G L f sz [.ref q, .int b0] 0 0 (fun u => u = (L, va_up f q (.inr (7, [.int b0])))) := by
  refine pz_met (cc := prog_7_method_1_code) (maxL := 2) (ret := none) (by decide) rfl (Nat.le_of_ble_eq_true rfl) ?_
  intro p e s m below meth c ls hx hb hr hml hts hown hlocks hin hsz hK hP hD hS hA hz hl
  have htb : ∀ w ∈ TB, w.before _ s = true := fun w h => hts w (List.mem_cons_of_mem _ h)
  have hl : lv_has ls 2 [(0, .ref q), (1, .int b0)] := hl
  refine lv_aload_n hx hb d_KE_init_0 rfl (lv_at hl 0 rfl) ?_
  refine pz_cv (va_runIN (As := []) (rest := []) ⟨hx, hb, hml, hown, hts⟩ (c_IT_init l G L f _ q) ⟨va_cnB 0 hts (tb_good tw_305) rfl rfl rfl (hz.1 _ tn_579) (htb _ tw_14) (by decide +kernel) ⟨(Nat.le_of_ble_eq_true rfl), (Nat.le_of_ble_eq_true rfl)⟩, rfl, htb _ tw_304⟩ (pz_pre (zz_ok _ _ _) hK hP hD hS hA hz) rfl rfl hl.1 rfl (lv_room (Nat.le_of_ble_eq_true rfl)) d_KE_init_1 ⟨(Nat.le_of_ble_eq_true rfl), (Nat.le_of_ble_eq_true rfl)⟩) hP hD hS hA (fun L2 f1 H locs hw hP hD hS => ?_)
  have ef1 : f1 = f := (Prod.mk.inj hw).2
  have eL2 : L2 = L := (Prod.mk.inj hw).1
  subst L2
  subst f1
  refine lv_aload_n hx hb d_KE_init_4 rfl (lv_at hl 0 rfl) ?_
  refine lv_iload_n hx hb d_KE_init_5 rfl (lv_at hl 1 rfl) ?_
  refine pz_putF (ci := 7) (v := .int b0) (ty := .int) (C := "PageMaker$Kern") (T := T_KE) (N := 1) hx hb htb in_KE ty_KE to_KE nm_KE hown hK hP hD hS hq hf rfl 0 (by decide) (htb _ tw_580) (fun _ h9 => h9) rfl hin rfl rfl rfl rfl (Nat.le_of_ble_eq_true rfl) d_KE_init_6 (fun f3 H locs ef3 hP hD hS => ?_)
  have ef3 : f3 = va_up f q (.inr (7, [.int b0])) := ef3
  exact pz_vret hx hb hr hlocks hK hP hD hS (Nat.le_of_ble_eq_true rfl) (Nat.le_of_ble_eq_true rfl) (by rw [ef3]) d_KE_init_9
set_option maxHeartbeats 4000000 in
set_option maxRecDepth 100000 in
/-- PageMaker$Penalty(..) -/
theorem c_PE_init (l : Launch) (G : gG) (L : List Nat) (f : Nat → va_E) (sz : Nat) (q : Nat) (o0 b0 : Int32) (hq : q ∈ L) (hf : f q = .inr (8, [.int o0])) : mV l y_PE_init w_PE_init ({ frames := 2, cells := 0, slots := 0, locals := 40 }) G L f sz [.ref q, .int b0] 0 0 (fun u => u = (L, va_up f q (.inr (8, [.int b0])))) := by
  refine pz_met (cc := prog_9_method_1_code) (maxL := 2) (ret := none) (by decide) rfl (Nat.le_of_ble_eq_true rfl) ?_
  intro p e s m below meth c ls hx hb hr hml hts hown hlocks hin hsz hK hP hD hS hA hz hl
  have htb : ∀ w ∈ TB, w.before _ s = true := fun w h => hts w (List.mem_cons_of_mem _ h)
  have hl : lv_has ls 2 [(0, .ref q), (1, .int b0)] := hl
  refine lv_aload_n hx hb d_PE_init_0 rfl (lv_at hl 0 rfl) ?_
  refine pz_cv (va_runIN (As := []) (rest := []) ⟨hx, hb, hml, hown, hts⟩ (c_IT_init l G L f _ q) ⟨va_cnB 0 hts (tb_good tw_305) rfl rfl rfl (hz.1 _ tn_597) (htb _ tw_14) (by decide +kernel) ⟨(Nat.le_of_ble_eq_true rfl), (Nat.le_of_ble_eq_true rfl)⟩, rfl, htb _ tw_304⟩ (pz_pre (zz_ok _ _ _) hK hP hD hS hA hz) rfl rfl hl.1 rfl (lv_room (Nat.le_of_ble_eq_true rfl)) d_PE_init_1 ⟨(Nat.le_of_ble_eq_true rfl), (Nat.le_of_ble_eq_true rfl)⟩) hP hD hS hA (fun L2 f1 H locs hw hP hD hS => ?_)
  have ef1 : f1 = f := (Prod.mk.inj hw).2
  have eL2 : L2 = L := (Prod.mk.inj hw).1
  subst L2
  subst f1
  refine lv_aload_n hx hb d_PE_init_4 rfl (lv_at hl 0 rfl) ?_
  refine lv_iload_n hx hb d_PE_init_5 rfl (lv_at hl 1 rfl) ?_
  refine pz_putF (ci := 8) (v := .int b0) (ty := .int) (C := "PageMaker$Penalty") (T := T_PE) (N := 1) hx hb htb in_PE ty_PE to_PE nm_PE hown hK hP hD hS hq hf rfl 0 (by decide) (htb _ tw_598) (fun _ h9 => h9) rfl hin rfl rfl rfl rfl (Nat.le_of_ble_eq_true rfl) d_PE_init_6 (fun f3 H locs ef3 hP hD hS => ?_)
  have ef3 : f3 = va_up f q (.inr (8, [.int b0])) := ef3
  exact pz_vret hx hb hr hlocks hK hP hD hS (Nat.le_of_ble_eq_true rfl) (Nat.le_of_ble_eq_true rfl) (by rw [ef3]) d_PE_init_9
set_option maxHeartbeats 4000000 in
set_option maxRecDepth 100000 in
/-- Totals.addTopGlue(fr, bx) -/
theorem c_TO_addTopGlue (l : Launch) (G : gG) (L : List Nat) (f : Nat → va_E) (sz : Nat) (t sa fr bx : Nat) (len dep shr : Int64) (g0 g1 g2 b0 b1 : Int32) (ht : t ∈ L) (hf : f t = .inr (3, [.ref sa, .long len, .long dep, .long shr])) (hr9 : fr ∈ L) (hfr : f fr = .inr (1, [.int g0, .int g1, .int g2])) (hx9 : bx ∈ L) (hbx : f bx = .inr (5, [.int b0, .int b1])) : mV l y_TO_addTopGlue w_TO_addTopGlue ({ frames := 1, cells := 0, slots := 0, locals := 40 }) G L f sz [.ref t, .ref fr, .ref bx] 0 0 (fun u => u = (L, va_up f t (.inr (3, [.ref sa, .long (len + (dep + k_top g1 b0)), .long 0, .long shr])))) := by
  refine pz_met (cc := prog_10_method_2_code) (maxL := 3) (ret := none) (by decide) rfl (Nat.le_of_ble_eq_true rfl) ?_
  intro p e s m below meth c ls hx hb hr hml hts hown hlocks hin hsz hK hP hD hS hA hz hl
  have htb : ∀ w ∈ TB, w.before _ s = true := fun w h => hts w (List.mem_cons_of_mem _ h)
  have hl : lv_has ls 3 [(0, .ref t), (1, .ref fr), (2, .ref bx)] := hl
  refine lv_aload_n hx hb d_TO_addTopGlue_0 rfl (lv_at hl 0 rfl) ?_
  refine lv_aload_n hx hb d_TO_addTopGlue_1 rfl (lv_at hl 1 rfl) ?_
  refine pz_get (ci := 1) (C := "PageMaker$Frame") (T := T_FR) (N := 3) hx hb htb in_FR hown hK hP hr9 hfr rfl 1 (by decide) (htb _ tw_74) (fun _ h9 => h9) rfl d_TO_addTopGlue_2 ?_
  refine lv_i2l hx hb d_TO_addTopGlue_5 rfl ?_
  refine lv_aload_n hx hb d_TO_addTopGlue_6 rfl (lv_at hl 2 rfl) ?_
  refine pz_get (ci := 5) (C := "PageMaker$Box") (T := T_BX) (N := 2) hx hb htb in_BX hown hK hP hx9 hbx rfl 0 (by decide) (htb _ tw_308) (fun _ h9 => h9) rfl d_TO_addTopGlue_7 ?_
  refine lv_i2l hx hb d_TO_addTopGlue_10 rfl ?_
  refine lv_lsub hx hb d_TO_addTopGlue_11 ?_
  refine lv_lconst (v := 0) hx hb d_TO_addTopGlue_12 rfl ?_
  refine va_mmax_long hx hb (hml.trans hl.1.symm) hown (htb _ tw_458) (htb _ tw_459) (htb _ tw_17) (htb _ tw_460) (Nat.le_of_ble_eq_true rfl) (Nat.le_of_ble_eq_true rfl) (Nat.le_of_ble_eq_true rfl) (Nat.le_of_ble_eq_true rfl) d_TO_addTopGlue_13 ?_
  refine pz_cv (va_runV (As := [.long (k_top g1 b0)]) (rest := []) ⟨hx, hb, hml, hown, hts⟩ (c_TO_addSpace l G L f _ t sa len dep shr (k_top g1 b0) ht hf) (cwV 1 hts (tb_V tw_461 tw_462 tw_463 tw_7 tw_464) rfl rfl rfl (by decide +kernel) ⟨(Nat.le_of_ble_eq_true rfl), (Nat.le_of_ble_eq_true rfl)⟩) (pz_preV (zz_ok _ _ _) hK hP hD hS hA hz (ci := 3) rfl rfl ht hf) rfl rfl hl.1 rfl (lv_room (Nat.le_of_ble_eq_true rfl)) d_TO_addTopGlue_16 ⟨(Nat.le_of_ble_eq_true rfl), (Nat.le_of_ble_eq_true rfl)⟩) hP hD hS hA (fun L2 f1 H locs hw hP hD hS => ?_)
  have ef1 : f1 = va_up (f) t (.inr (3, [.ref sa, .long (len + (dep + k_top g1 b0)), .long 0, .long shr])) := (Prod.mk.inj hw).2
  have eL2 : L2 = L := (Prod.mk.inj hw).1
  subst L2
  exact pz_vret hx hb hr hlocks hK hP hD hS (Nat.le_of_ble_eq_true rfl) (Nat.le_of_ble_eq_true rfl) (by rw [ef1]) d_TO_addTopGlue_19
set_option maxHeartbeats 4000000 in
set_option maxRecDepth 100000 in
/-- Box.addTo(t, fr) -/
theorem c_BX_addTo (l : Launch) (G : gG) (L : List Nat) (f : Nat → va_E) (sz : Nat) (q t sa fr : Nat) (len dep shr : Int64) (g0 g1 g2 b0 b1 : Int32) (hq : q ∈ L) (hfq : f q = .inr (5, [.int b0, .int b1])) (ht : t ∈ L) (hf : f t = .inr (3, [.ref sa, .long len, .long dep, .long shr])) (hr9 : fr ∈ L) (hfr : f fr = .inr (1, [.int g0, .int g1, .int g2])) : mV l y_BX_addTo w_BX_addTo ({ frames := 1, cells := 0, slots := 0, locals := 40 }) G L f sz [.ref q, .ref t, .ref fr] 0 0 (fun u => u = (L, va_up f t (.inr (3, [.ref sa, .long (len + (dep + b0.toInt64) + (b1.toInt64 - k_dep b1 g2)), .long (k_dep b1 g2), .long shr])))) := by
  refine pz_met (cc := prog_2_method_2_code) (maxL := 3) (ret := none) (by decide) rfl (Nat.le_of_ble_eq_true rfl) ?_
  intro p e s m below meth c ls hx hb hr hml hts hown hlocks hin hsz hK hP hD hS hA hz hl
  have htb : ∀ w ∈ TB, w.before _ s = true := fun w h => hts w (List.mem_cons_of_mem _ h)
  have hl : lv_has ls 3 [(0, .ref q), (1, .ref t), (2, .ref fr)] := hl
  refine lv_aload_n hx hb d_BX_addTo_0 rfl (lv_at hl 1 rfl) ?_
  refine lv_dup hx hb d_BX_addTo_1 rfl ?_
  refine pz_get (ci := 3) (C := "PageMaker$Totals") (T := T_TO) (N := 4) hx hb htb in_TO hown hK hP ht hf rfl 1 (by decide) (htb _ tw_102) (fun _ h9 => h9) rfl d_BX_addTo_2 ?_
  refine lv_aload_n hx hb d_BX_addTo_5 rfl (lv_at hl 1 rfl) ?_
  refine pz_get (ci := 3) (C := "PageMaker$Totals") (T := T_TO) (N := 4) hx hb htb in_TO hown hK hP ht hf rfl 2 (by decide) (htb _ tw_106) (fun _ h9 => h9) rfl d_BX_addTo_6 ?_
  refine lv_aload_n hx hb d_BX_addTo_9 rfl (lv_at hl 0 rfl) ?_
  refine pz_get (ci := 5) (C := "PageMaker$Box") (T := T_BX) (N := 2) hx hb htb in_BX hown hK hP hq hfq rfl 0 (by decide) (htb _ tw_307) (fun _ h9 => h9) rfl d_BX_addTo_10 ?_
  refine lv_i2l hx hb d_BX_addTo_13 rfl ?_
  refine lv_ladd hx hb d_BX_addTo_14 ?_
  refine lv_ladd hx hb d_BX_addTo_15 ?_
  refine pz_put (ci := 3) (v := .long (len + (dep + b0.toInt64))) (ty := .long) (C := "PageMaker$Totals") (T := T_TO) (N := 4) hx hb htb in_TO ty_TO to_TO nm_TO hown hK hP hD hS ht hf rfl 1 (by decide) (htb _ tw_102) (fun _ h9 => h9) rfl rfl rfl rfl (Nat.le_of_ble_eq_true rfl) d_BX_addTo_16 (fun f1 H locs ef1 hP hD hS => ?_)
  have ef1 : f1 = va_up f t (.inr (3, [.ref sa, .long (len + (dep + b0.toInt64)), .long dep, .long shr])) := ef1
  refine lv_aload_n hx hb d_BX_addTo_19 rfl (lv_at hl 1 rfl) ?_
  refine lv_aload_n hx hb d_BX_addTo_20 rfl (lv_at hl 0 rfl) ?_
  have h_2 : f1 q = .inr (5, [.int b0, .int b1]) := by rw [ef1, va_up_ne _ _ (pz_nec hfq hf (by decide))]; exact hfq
  refine pz_get (ci := 5) (C := "PageMaker$Box") (T := T_BX) (N := 2) hx hb htb in_BX hown hK hP hq h_2 rfl 1 (by decide) (htb _ tw_310) (fun _ h9 => h9) rfl d_BX_addTo_21 ?_
  refine lv_aload_n hx hb d_BX_addTo_24 rfl (lv_at hl 2 rfl) ?_
  have h_3 : f1 fr = .inr (1, [.int g0, .int g1, .int g2]) := by rw [ef1, va_up_ne _ _ (pz_nec hfr hf (by decide))]; exact hfr
  refine pz_get (ci := 1) (C := "PageMaker$Frame") (T := T_FR) (N := 3) hx hb htb in_FR hown hK hP hr9 h_3 rfl 2 (by decide) (htb _ tw_76) (fun _ h9 => h9) rfl d_BX_addTo_25 ?_
  refine va_mmin hx hb (hml.trans hl.1.symm) hown (htb _ tw_471) (htb _ tw_374) (htb _ tw_17) (htb _ tw_375) (Nat.le_of_ble_eq_true rfl) (Nat.le_of_ble_eq_true rfl) (Nat.le_of_ble_eq_true rfl) (Nat.le_of_ble_eq_true rfl) d_BX_addTo_28 ?_
  refine lv_i2l hx hb d_BX_addTo_31 rfl ?_
  have h_4 : f1 t = .inr (3, [.ref sa, .long (len + (dep + b0.toInt64)), .long dep, .long shr]) := by rw [ef1]; exact va_up_self _ _ _
  refine pz_put (ci := 3) (v := .long ((if g2 < b1 then g2 else b1).toInt64)) (ty := .long) (C := "PageMaker$Totals") (T := T_TO) (N := 4) hx hb htb in_TO ty_TO to_TO nm_TO hown hK hP hD hS ht h_4 rfl 2 (by decide) (htb _ tw_106) (fun _ h9 => h9) rfl rfl rfl rfl (Nat.le_of_ble_eq_true rfl) d_BX_addTo_32 (fun f5 H locs ef5 hP hD hS => ?_)
  have ef5 : f5 = va_up f1 t (.inr (3, [.ref sa, .long (len + (dep + b0.toInt64)), .long ((if g2 < b1 then g2 else b1).toInt64), .long shr])) := ef5
  refine lv_aload_n hx hb d_BX_addTo_35 rfl (lv_at hl 1 rfl) ?_
  refine lv_dup hx hb d_BX_addTo_36 rfl ?_
  have h_6 : f5 t = .inr (3, [.ref sa, .long (len + (dep + b0.toInt64)), .long ((if g2 < b1 then g2 else b1).toInt64), .long shr]) := by rw [ef5]; exact va_up_self _ _ _
  refine pz_get (ci := 3) (C := "PageMaker$Totals") (T := T_TO) (N := 4) hx hb htb in_TO hown hK hP ht h_6 rfl 1 (by decide) (htb _ tw_102) (fun _ h9 => h9) rfl d_BX_addTo_37 ?_
  refine lv_aload_n hx hb d_BX_addTo_40 rfl (lv_at hl 0 rfl) ?_
  have h_7 : f5 q = .inr (5, [.int b0, .int b1]) := by rw [ef5, va_up_ne _ _ (pz_nec hfq hf (by decide))]; exact h_2
  refine pz_get (ci := 5) (C := "PageMaker$Box") (T := T_BX) (N := 2) hx hb htb in_BX hown hK hP hq h_7 rfl 1 (by decide) (htb _ tw_310) (fun _ h9 => h9) rfl d_BX_addTo_41 ?_
  refine lv_i2l hx hb d_BX_addTo_44 rfl ?_
  refine lv_aload_n hx hb d_BX_addTo_45 rfl (lv_at hl 1 rfl) ?_
  refine pz_get (ci := 3) (C := "PageMaker$Totals") (T := T_TO) (N := 4) hx hb htb in_TO hown hK hP ht h_6 rfl 2 (by decide) (htb _ tw_106) (fun _ h9 => h9) rfl d_BX_addTo_46 ?_
  refine lv_lsub hx hb d_BX_addTo_49 ?_
  refine lv_ladd hx hb d_BX_addTo_50 ?_
  refine pz_put (ci := 3) (v := .long ((len + (dep + b0.toInt64)) + (b1.toInt64 - (if g2 < b1 then g2 else b1).toInt64))) (ty := .long) (C := "PageMaker$Totals") (T := T_TO) (N := 4) hx hb htb in_TO ty_TO to_TO nm_TO hown hK hP hD hS ht h_6 rfl 1 (by decide) (htb _ tw_102) (fun _ h9 => h9) rfl rfl rfl rfl (Nat.le_of_ble_eq_true rfl) d_BX_addTo_51 (fun f8 H locs ef8 hP hD hS => ?_)
  have ef8 : f8 = va_up f5 t (.inr (3, [.ref sa, .long ((len + (dep + b0.toInt64)) + (b1.toInt64 - (if g2 < b1 then g2 else b1).toInt64)), .long ((if g2 < b1 then g2 else b1).toInt64), .long shr])) := ef8
  exact pz_vret hx hb hr hlocks hK hP hD hS (Nat.le_of_ble_eq_true rfl) (Nat.le_of_ble_eq_true rfl) (by rw [ef8, ef5, ef1, bx_uu, bx_uu]; rfl) d_BX_addTo_54
set_option maxHeartbeats 4000000 in
set_option maxRecDepth 100000 in
/-- Glue.addTo(t, fr) -/
theorem c_GL_addTo (l : Launch) (G : gG) (L : List Nat) (f : Nat → va_E) (sz : Nat) (q t sa fr : Nat) (len dep shr : Int64) (gg : Nat → Int64) (g0 g1 g2 b0 b1 b2 b3 : Int32) (hq : q ∈ L) (hfq : f q = .inr (6, [.int b0, .int b1, .int b2, .int b3])) (ht : t ∈ L) (hf : f t = .inr (3, [.ref sa, .long len, .long dep, .long shr])) (hr9 : fr ∈ L) (hfr : f fr = .inr (1, [.int g0, .int g1, .int g2])) (hs9 : sa ∈ L) (hsa : f sa = .inl (cJ G, 4, .inr (.inl gg))) (h4 : vp_in b2 4) : mV l y_GL_addTo w_GL_addTo ({ frames := 1, cells := 0, slots := 0, locals := 22 }) G L f sz [.ref q, .ref t, .ref fr] 0 0 (fun u => u = (L, va_up (va_up f t (.inr (3, [.ref sa, .long (len + (dep + b0.toInt64)), .long 0, .long (shr + b3.toInt64)]))) sa (.inl (cJ G, 4, .inr (.inl (vp_updL gg b2.toNatClampNeg (gg b2.toNatClampNeg + b1.toInt64))))))) := by
  refine pz_met (cc := prog_5_method_2_code) (maxL := 3) (ret := none) (by decide) rfl (Nat.le_of_ble_eq_true rfl) ?_
  intro p e s m below meth c ls hx hb hr hml hts hown hlocks hin hsz hK hP hD hS hA hz hl
  have htb : ∀ w ∈ TB, w.before _ s = true := fun w h => hts w (List.mem_cons_of_mem _ h)
  have hl : lv_has ls 3 [(0, .ref q), (1, .ref t), (2, .ref fr)] := hl
  refine lv_aload_n hx hb d_GL_addTo_0 rfl (lv_at hl 1 rfl) ?_
  refine lv_aload_n hx hb d_GL_addTo_1 rfl (lv_at hl 0 rfl) ?_
  refine pz_get (ci := 6) (C := "PageMaker$Glue") (T := T_GL) (N := 4) hx hb htb in_GL hown hK hP hq hfq rfl 0 (by decide) (htb _ tw_554) (fun _ h9 => h9) rfl d_GL_addTo_2 ?_
  refine lv_i2l hx hb d_GL_addTo_5 rfl ?_
  refine pz_cv (va_runV (As := [.long b0.toInt64]) (rest := []) ⟨hx, hb, hml, hown, hts⟩ (c_TO_addSpace l G L f _ t sa len dep shr b0.toInt64 ht hf) (cwV 1 hts (tb_V tw_475 tw_462 tw_463 tw_7 tw_464) rfl rfl rfl (by decide +kernel) ⟨(Nat.le_of_ble_eq_true rfl), (Nat.le_of_ble_eq_true rfl)⟩) (pz_preV (zz_ok _ _ _) hK hP hD hS hA hz (ci := 3) rfl rfl ht hf) rfl rfl hl.1 rfl (lv_room (Nat.le_of_ble_eq_true rfl)) d_GL_addTo_6 ⟨(Nat.le_of_ble_eq_true rfl), (Nat.le_of_ble_eq_true rfl)⟩) hP hD hS hA (fun L2 f1 H locs hw hP hD hS => ?_)
  have ef1 : f1 = va_up (f) t (.inr (3, [.ref sa, .long (len + (dep + b0.toInt64)), .long 0, .long shr])) := (Prod.mk.inj hw).2
  have eL2 : L2 = L := (Prod.mk.inj hw).1
  subst L2
  refine lv_aload_n hx hb d_GL_addTo_9 rfl (lv_at hl 1 rfl) ?_
  refine lv_dup hx hb d_GL_addTo_10 rfl ?_
  have h_3 : f1 t = .inr (3, [.ref sa, .long (len + (dep + b0.toInt64)), .long 0, .long shr]) := by rw [ef1]; exact va_up_self _ _ _
  refine pz_get (ci := 3) (C := "PageMaker$Totals") (T := T_TO) (N := 4) hx hb htb in_TO hown hK hP ht h_3 rfl 3 (by decide) (htb _ tw_110) (fun _ h9 => h9) rfl d_GL_addTo_11 ?_
  refine lv_aload_n hx hb d_GL_addTo_14 rfl (lv_at hl 0 rfl) ?_
  have h_4 : f1 q = .inr (6, [.int b0, .int b1, .int b2, .int b3]) := by rw [ef1, va_up_ne _ _ (pz_nec hfq hf (by decide))]; exact hfq
  refine pz_get (ci := 6) (C := "PageMaker$Glue") (T := T_GL) (N := 4) hx hb htb in_GL hown hK hP hq h_4 rfl 3 (by decide) (htb _ tw_557) (fun _ h9 => h9) rfl d_GL_addTo_15 ?_
  refine lv_i2l hx hb d_GL_addTo_18 rfl ?_
  refine lv_ladd hx hb d_GL_addTo_19 ?_
  refine pz_put (ci := 3) (v := .long (shr + b3.toInt64)) (ty := .long) (C := "PageMaker$Totals") (T := T_TO) (N := 4) hx hb htb in_TO ty_TO to_TO nm_TO hown hK hP hD hS ht h_3 rfl 3 (by decide) (htb _ tw_110) (fun _ h9 => h9) rfl rfl rfl rfl (Nat.le_of_ble_eq_true rfl) d_GL_addTo_20 (fun f5 H locs ef5 hP hD hS => ?_)
  have ef5 : f5 = va_up f1 t (.inr (3, [.ref sa, .long (len + (dep + b0.toInt64)), .long 0, .long (shr + b3.toInt64)])) := ef5
  refine lv_aload_n hx hb d_GL_addTo_23 rfl (lv_at hl 0 rfl) ?_
  have h_6 : f5 q = .inr (6, [.int b0, .int b1, .int b2, .int b3]) := by rw [ef5, va_up_ne _ _ (pz_nec hfq hf (by decide))]; exact h_4
  refine pz_get (ci := 6) (C := "PageMaker$Glue") (T := T_GL) (N := 4) hx hb htb in_GL hown hK hP hq h_6 rfl 2 (by decide) (htb _ tw_556) (fun _ h9 => h9) rfl d_GL_addTo_24 ?_
  refine lv_if_lt (tgt := 55) hx hb d_GL_addTo_27 (by decide) (fun c_7 => ?_) (fun c_7 => ?_)
  · exact absurd c_7 (k_in4 h4).1
  · refine lv_aload_n hx hb d_GL_addTo_30 rfl (lv_at hl 0 rfl) ?_
    refine pz_get (ci := 6) (C := "PageMaker$Glue") (T := T_GL) (N := 4) hx hb htb in_GL hown hK hP hq h_6 rfl 2 (by decide) (htb _ tw_556) (fun _ h9 => h9) rfl d_GL_addTo_31 ?_
    refine lv_iconst (v := 4) hx hb d_GL_addTo_34 (by decide) ?_
    refine lv_icmp_ge (tgt := 55) hx hb d_GL_addTo_35 (by decide) (fun c_8 => ?_) (fun c_8 => ?_)
    · exact absurd c_8 (k_in4 h4).2
    · refine lv_aload_n hx hb d_GL_addTo_38 rfl (lv_at hl 1 rfl) ?_
      have h_9 : f5 t = .inr (3, [.ref sa, .long (len + (dep + b0.toInt64)), .long 0, .long (shr + b3.toInt64)]) := by rw [ef5]; exact va_up_self _ _ _
      refine pz_get (ci := 3) (C := "PageMaker$Totals") (T := T_TO) (N := 4) hx hb htb in_TO hown hK hP ht h_9 rfl 0 (by decide) (htb _ tw_98) (fun _ h9 => h9) rfl d_GL_addTo_39 ?_
      refine lv_aload_n hx hb d_GL_addTo_42 rfl (lv_at hl 0 rfl) ?_
      refine pz_get (ci := 6) (C := "PageMaker$Glue") (T := T_GL) (N := 4) hx hb htb in_GL hown hK hP hq h_6 rfl 2 (by decide) (htb _ tw_556) (fun _ h9 => h9) rfl d_GL_addTo_43 ?_
      refine lv_dup2_11 hx hb d_GL_addTo_46 rfl rfl ?_
      have h_11 : f1 sa = .inl (cJ G, 4, .inr (.inl gg)) := by rw [ef1, va_up_ne _ _ (pz_nea hsa hf)]; exact hsa
      have h_10 : f5 sa = .inl (cJ G, 4, .inr (.inl gg)) := by rw [ef5, va_up_ne _ _ (pz_nea hsa hf)]; exact h_11
      have hin12 : vp_in b2 4 := h4
      refine pz_lald hx hb hK hP 1 hs9 h_10 rfl hin12 d_GL_addTo_47 ?_
      refine lv_aload_n hx hb d_GL_addTo_48 rfl (lv_at hl 0 rfl) ?_
      refine pz_get (ci := 6) (C := "PageMaker$Glue") (T := T_GL) (N := 4) hx hb htb in_GL hown hK hP hq h_6 rfl 1 (by decide) (htb _ tw_555) (fun _ h9 => h9) rfl d_GL_addTo_49 ?_
      refine lv_i2l hx hb d_GL_addTo_52 rfl ?_
      refine lv_ladd hx hb d_GL_addTo_53 ?_
      have hin13 : vp_in b2 4 := h4
      refine pz_last hx hb hK hP hD hS 1 hs9 h_10 rfl hin13 d_GL_addTo_54 (fun f14 H locs ef14 hP hD hS => ?_)
      exact pz_vret hx hb hr hlocks hK hP hD hS (Nat.le_of_ble_eq_true rfl) (Nat.le_of_ble_eq_true rfl) (by rw [ef14, ef5, ef1, bx_uu]) d_GL_addTo_55
set_option maxHeartbeats 4000000 in
set_option maxRecDepth 100000 in
/-- Kern.addTo(t, fr) -/
theorem c_KE_addTo (l : Launch) (G : gG) (L : List Nat) (f : Nat → va_E) (sz : Nat) (q t sa fr : Nat) (len dep shr : Int64) (b0 : Int32) (hq : q ∈ L) (hfq : f q = .inr (7, [.int b0])) (ht : t ∈ L) (hf : f t = .inr (3, [.ref sa, .long len, .long dep, .long shr])) : mV l y_KE_addTo w_KE_addTo ({ frames := 1, cells := 0, slots := 0, locals := 22 }) G L f sz [.ref q, .ref t, .ref fr] 0 0 (fun u => u = (L, va_up f t (.inr (3, [.ref sa, .long (len + (dep + b0.toInt64)), .long 0, .long shr])))) := by
  refine pz_met (cc := prog_7_method_2_code) (maxL := 3) (ret := none) (by decide) rfl (Nat.le_of_ble_eq_true rfl) ?_
  intro p e s m below meth c ls hx hb hr hml hts hown hlocks hin hsz hK hP hD hS hA hz hl
  have htb : ∀ w ∈ TB, w.before _ s = true := fun w h => hts w (List.mem_cons_of_mem _ h)
  have hl : lv_has ls 3 [(0, .ref q), (1, .ref t), (2, .ref fr)] := hl
  refine lv_aload_n hx hb d_KE_addTo_0 rfl (lv_at hl 1 rfl) ?_
  refine lv_aload_n hx hb d_KE_addTo_1 rfl (lv_at hl 0 rfl) ?_
  refine pz_get (ci := 7) (C := "PageMaker$Kern") (T := T_KE) (N := 1) hx hb htb in_KE hown hK hP hq hfq rfl 0 (by decide) (htb _ tw_580) (fun _ h9 => h9) rfl d_KE_addTo_2 ?_
  refine lv_i2l hx hb d_KE_addTo_5 rfl ?_
  refine pz_cv (va_runV (As := [.long b0.toInt64]) (rest := []) ⟨hx, hb, hml, hown, hts⟩ (c_TO_addSpace l G L f _ t sa len dep shr b0.toInt64 ht hf) (cwV 1 hts (tb_V tw_479 tw_462 tw_463 tw_7 tw_464) rfl rfl rfl (by decide +kernel) ⟨(Nat.le_of_ble_eq_true rfl), (Nat.le_of_ble_eq_true rfl)⟩) (pz_preV (zz_ok _ _ _) hK hP hD hS hA hz (ci := 3) rfl rfl ht hf) rfl rfl hl.1 rfl (lv_room (Nat.le_of_ble_eq_true rfl)) d_KE_addTo_6 ⟨(Nat.le_of_ble_eq_true rfl), (Nat.le_of_ble_eq_true rfl)⟩) hP hD hS hA (fun L2 f1 H locs hw hP hD hS => ?_)
  have ef1 : f1 = va_up (f) t (.inr (3, [.ref sa, .long (len + (dep + b0.toInt64)), .long 0, .long shr])) := (Prod.mk.inj hw).2
  have eL2 : L2 = L := (Prod.mk.inj hw).1
  subst L2
  exact pz_vret hx hb hr hlocks hK hP hD hS (Nat.le_of_ble_eq_true rfl) (Nat.le_of_ble_eq_true rfl) (by rw [ef1]) d_KE_addTo_9
set_option maxHeartbeats 4000000 in
set_option maxRecDepth 100000 in
/-- Penalty.addTo(t, fr) -/
theorem c_PE_addTo (l : Launch) (G : gG) (L : List Nat) (f : Nat → va_E) (sz : Nat) (q t fr : Nat) : mV l y_PE_addTo w_PE_addTo ({ frames := 0, cells := 0, slots := 0, locals := 0 }) G L f sz [.ref q, .ref t, .ref fr] 0 0 (fun u => u = (L, f)) := by
  refine pz_met (cc := prog_9_method_2_code) (maxL := 3) (ret := none) (by decide) rfl (Nat.le_of_ble_eq_true rfl) ?_
  intro p e s m below meth c ls hx hb hr hml hts hown hlocks hin hsz hK hP hD hS hA hz hl
  have htb : ∀ w ∈ TB, w.before _ s = true := fun w h => hts w (List.mem_cons_of_mem _ h)
  have hl : lv_has ls 3 [(0, .ref q), (1, .ref t), (2, .ref fr)] := hl
  exact pz_vret hx hb hr hlocks hK hP hD hS (Nat.le_of_ble_eq_true rfl) (Nat.le_of_ble_eq_true rfl) rfl d_PE_addTo_0
set_option maxHeartbeats 4000000 in
set_option maxRecDepth 100000 in
/-- Totals() -/
theorem c_TO_init (l : Launch) (G : gG) (L : List Nat) (f : Nat → va_E) (sz : Nat) (q : Nat) (a0 a1 a2 : Int64) (hq : q ∈ L) (hf : f q = .inr (3, [.null, .long a0, .long a1, .long a2])) : mV l y_TO_init w_TO_init ({ frames := 1, cells := 1, slots := 4, locals := 20 }) G L f sz [.ref q] 1 4 (fun u => ∃ sa, sa ∉ L ∧ u = (L ++ [sa], va_up (va_up f sa (.inl (cJ G, 4, .inr (.inl (fun _ => 0))))) q (.inr (3, [.ref sa, .long 0, .long 0, .long 0])))) := by
  refine pz_met (cc := prog_10_method_1_code) (maxL := 1) (ret := none) (by decide) rfl (Nat.le_of_ble_eq_true rfl) ?_
  intro p e s m below meth c ls hx hb hr hml hts hown hlocks hin hsz hK hP hD hS hA hz hl
  have htb : ∀ w ∈ TB, w.before _ s = true := fun w h => hts w (List.mem_cons_of_mem _ h)
  have hl : lv_has ls 1 [(0, .ref q)] := hl
  refine lv_aload_n hx hb d_TO_init_0 rfl (lv_at hl 0 rfl) ?_
  refine W.objInit hx hb hown (htb _ tw_95) (htb _ tw_33) (htb _ tw_34) rfl (by rw [hml]; exact hl.1) rfl d_TO_init_1 (Nat.le_of_ble_eq_true rfl) (Nat.le_of_ble_eq_true rfl) ?_
  refine W.eq (g2 := F0 m 4 ls []) rfl ?_
  refine lv_aload_n hx hb d_TO_init_4 rfl (lv_at hl 0 rfl) ?_
  refine lv_iconst (v := 4) hx hb d_TO_init_5 (by decide) ?_
  refine pz_newl hx hb (htb _ tw_121) hK hP hD hS hA 1 rfl 4 (by decide) (by decide) (by decide) (Nat.le_of_ble_eq_true rfl) (Nat.le_of_ble_eq_true rfl) d_TO_init_6 (fun q1 L2 f3 H hnq1 eL2 ef3 hP hD hS => ?_)
  subst L2
  have h_4 : f3 q = .inr (3, [.null, .long a0, .long a1, .long a2]) := by rw [ef3, va_up_ne _ _ (Ne.symm (pz_nef hnq1 hq))]; exact hf
  refine pz_putF (ci := 3) (v := .ref q1) (ty := .array .long) (C := "PageMaker$Totals") (T := T_TO) (N := 4) hx hb htb in_TO ty_TO to_TO nm_TO hown hK hP hD hS (List.mem_append_left _ hq) h_4 rfl 0 (by decide) (htb _ tw_96) (fun _ h9 => h9) rfl hin rfl rfl rfl rfl (Nat.le_of_ble_eq_true rfl) d_TO_init_8 (fun f5 H locs ef5 hP hD hS => ?_)
  have ef5 : f5 = va_up f3 q (.inr (3, [.ref q1, .long a0, .long a1, .long a2])) := ef5
  refine lv_aload_n hx hb d_TO_init_11 rfl (lv_at hl 0 rfl) ?_
  refine lv_lconst (v := 0) hx hb d_TO_init_12 rfl ?_
  have h_6 : f5 q = .inr (3, [.ref q1, .long a0, .long a1, .long a2]) := by rw [ef5]; exact va_up_self _ _ _
  refine pz_put (ci := 3) (v := .long 0) (ty := .long) (C := "PageMaker$Totals") (T := T_TO) (N := 4) hx hb htb in_TO ty_TO to_TO nm_TO hown hK hP hD hS (List.mem_append_left _ hq) h_6 rfl 1 (by decide) (htb _ tw_100) (fun _ h9 => h9) rfl rfl rfl rfl (Nat.le_of_ble_eq_true rfl) d_TO_init_13 (fun f7 H locs ef7 hP hD hS => ?_)
  have ef7 : f7 = va_up f5 q (.inr (3, [.ref q1, .long 0, .long a1, .long a2])) := ef7
  refine lv_aload_n hx hb d_TO_init_16 rfl (lv_at hl 0 rfl) ?_
  refine lv_lconst (v := 0) hx hb d_TO_init_17 rfl ?_
  have h_8 : f7 q = .inr (3, [.ref q1, .long 0, .long a1, .long a2]) := by rw [ef7]; exact va_up_self _ _ _
  refine pz_put (ci := 3) (v := .long 0) (ty := .long) (C := "PageMaker$Totals") (T := T_TO) (N := 4) hx hb htb in_TO ty_TO to_TO nm_TO hown hK hP hD hS (List.mem_append_left _ hq) h_8 rfl 2 (by decide) (htb _ tw_105) (fun _ h9 => h9) rfl rfl rfl rfl (Nat.le_of_ble_eq_true rfl) d_TO_init_18 (fun f9 H locs ef9 hP hD hS => ?_)
  have ef9 : f9 = va_up f7 q (.inr (3, [.ref q1, .long 0, .long 0, .long a2])) := ef9
  refine lv_aload_n hx hb d_TO_init_21 rfl (lv_at hl 0 rfl) ?_
  refine lv_lconst (v := 0) hx hb d_TO_init_22 rfl ?_
  have h_10 : f9 q = .inr (3, [.ref q1, .long 0, .long 0, .long a2]) := by rw [ef9]; exact va_up_self _ _ _
  refine pz_put (ci := 3) (v := .long 0) (ty := .long) (C := "PageMaker$Totals") (T := T_TO) (N := 4) hx hb htb in_TO ty_TO to_TO nm_TO hown hK hP hD hS (List.mem_append_left _ hq) h_10 rfl 3 (by decide) (htb _ tw_108) (fun _ h9 => h9) rfl rfl rfl rfl (Nat.le_of_ble_eq_true rfl) d_TO_init_23 (fun f11 H locs ef11 hP hD hS => ?_)
  have ef11 : f11 = va_up f9 q (.inr (3, [.ref q1, .long 0, .long 0, .long 0])) := ef11
  exact pz_vret hx hb hr hlocks hK hP hD hS (Nat.le_of_ble_eq_true rfl) (Nat.le_of_ble_eq_true rfl) ⟨q1, hnq1, by rw [ef11, ef9, ef7, ef5, ef3, bx_uu, bx_uu, bx_uu]⟩ d_TO_init_26
