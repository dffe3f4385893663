/-! small methods of the class -/
set_option maxHeartbeats 4000000 in
set_option maxRecDepth 100000 in
/-- Frame(h, t, g) -/
theorem c_FR_init (l : Launch) (G : gG) (L : List Nat) (f : Nat → va_E) (sz : Nat) (q : Nat) (h t g a b d : Int32) (hq : q ∈ L) (hf : f q = .inr (1, [.int a, .int b, .int d])) : mV l y_FR_init w_FR_init ({ frames := 1, cells := 0, slots := 0, locals := 20 }) G L f sz [.ref q, .int h, .int t, .int g] 0 0 (fun u => u = (L, va_up f q (.inr (1, [.int h, .int t, .int g])))) := by
  refine pz_met (cc := prog_4_method_1_code) (maxL := 4) (ret := none) (by decide) rfl (Nat.le_of_ble_eq_true rfl) ?_
  intro p e s m below meth c ls hx hb hr hml hts hown hlocks hin hsz hK hP hD hS hA hz hl
  have htb : ∀ w ∈ TB, w.before _ s = true := fun w h => hts w (List.mem_cons_of_mem _ h)
  have hl : lv_has ls 4 [(0, .ref q), (1, .int h), (2, .int t), (3, .int g)] := hl
  refine lv_aload_n hx hb d_FR_init_0 rfl (lv_at hl 0 rfl) ?_
  refine W.objInit hx hb hown (htb _ tw_69) (htb _ tw_33) (htb _ tw_34) rfl (by rw [hml]; exact hl.1) rfl d_FR_init_1 (Nat.le_of_ble_eq_true rfl) (Nat.le_of_ble_eq_true rfl) ?_
  refine W.eq (g2 := F0 m 4 ls []) rfl ?_
  refine lv_aload_n hx hb d_FR_init_4 rfl (lv_at hl 0 rfl) ?_
  refine lv_iload_n hx hb d_FR_init_5 rfl (lv_at hl 1 rfl) ?_
  refine pz_putF (ci := 1) (v := .int h) (ty := .int) (C := "PageMaker$Frame") (T := T_FR) (N := 3) hx hb htb in_FR ty_FR to_FR nm_FR hown hK hP hD hS hq hf rfl 0 (by decide) (htb _ tw_70) (fun _ h9 => h9) rfl hin rfl rfl rfl rfl (Nat.le_of_ble_eq_true rfl) d_FR_init_6 (fun f1 H locs ef1 hP hD hS => ?_)
  have ef1 : f1 = va_up f q (.inr (1, [.int h, .int b, .int d])) := ef1
  refine lv_aload_n hx hb d_FR_init_9 rfl (lv_at hl 0 rfl) ?_
  refine lv_iload_n hx hb d_FR_init_10 rfl (lv_at hl 2 rfl) ?_
  have h_2 : f1 q = .inr (1, [.int h, .int b, .int d]) := by rw [ef1]; exact va_up_self _ _ _
  refine pz_putF (ci := 1) (v := .int t) (ty := .int) (C := "PageMaker$Frame") (T := T_FR) (N := 3) hx hb htb in_FR ty_FR to_FR nm_FR hown hK hP hD hS hq h_2 rfl 1 (by decide) (htb _ tw_73) (fun _ h9 => h9) rfl hin rfl rfl rfl rfl (Nat.le_of_ble_eq_true rfl) d_FR_init_11 (fun f3 H locs ef3 hP hD hS => ?_)
  have ef3 : f3 = va_up f1 q (.inr (1, [.int h, .int t, .int d])) := ef3
  refine lv_aload_n hx hb d_FR_init_14 rfl (lv_at hl 0 rfl) ?_
  refine lv_iload_n hx hb d_FR_init_15 rfl (lv_at hl 3 rfl) ?_
  have h_4 : f3 q = .inr (1, [.int h, .int t, .int d]) := by rw [ef3]; exact va_up_self _ _ _
  refine pz_putF (ci := 1) (v := .int g) (ty := .int) (C := "PageMaker$Frame") (T := T_FR) (N := 3) hx hb htb in_FR ty_FR to_FR nm_FR hown hK hP hD hS hq h_4 rfl 2 (by decide) (htb _ tw_75) (fun _ h9 => h9) rfl hin rfl rfl rfl rfl (Nat.le_of_ble_eq_true rfl) d_FR_init_16 (fun f5 H locs ef5 hP hD hS => ?_)
  have ef5 : f5 = va_up f3 q (.inr (1, [.int h, .int t, .int g])) := ef5
  exact pz_vret hx hb hr hlocks hK hP hD hS (Nat.le_of_ble_eq_true rfl) (Nat.le_of_ble_eq_true rfl) (by rw [ef5, ef3, ef1, bx_uu, bx_uu]) d_FR_init_19
set_option maxHeartbeats 4000000 in
set_option maxRecDepth 100000 in
/-- Totals.addSpace(x) -/
theorem c_TO_addSpace (l : Launch) (G : gG) (L : List Nat) (f : Nat → va_E) (sz : Nat) (t st : Nat) (len dep shr x : Int64) (ht : t ∈ L) (hf : f t = .inr (3, [.ref st, .long len, .long dep, .long shr])) : mV l y_TO_addSpace w_TO_addSpace ({ frames := 0, cells := 0, slots := 0, locals := 0 }) G L f sz [.ref t, .long x] 0 0 (fun u => u = (L, va_up f t (.inr (3, [.ref st, .long (len + (dep + x)), .long 0, .long shr])))) := by
  refine pz_met (cc := prog_10_method_3_code) (maxL := 3) (ret := none) (by decide) rfl (Nat.le_of_ble_eq_true rfl) ?_
  intro p e s m below meth c ls hx hb hr hml hts hown hlocks hin hsz hK hP hD hS hA hz hl
  have htb : ∀ w ∈ TB, w.before _ s = true := fun w h => hts w (List.mem_cons_of_mem _ h)
  have hl : lv_has ls 3 [(0, .ref t), (1, .long x)] := hl
  refine lv_aload_n hx hb d_TO_addSpace_0 rfl (lv_at hl 0 rfl) ?_
  refine lv_dup hx hb d_TO_addSpace_1 rfl ?_
  refine pz_get (ci := 3) (C := "PageMaker$Totals") (T := T_TO) (N := 4) hx hb htb in_TO hown hK hP ht hf rfl 1 (by decide) (htb _ tw_100) (fun _ h9 => h9) rfl d_TO_addSpace_2 ?_
  refine lv_aload_n hx hb d_TO_addSpace_5 rfl (lv_at hl 0 rfl) ?_
  refine pz_get (ci := 3) (C := "PageMaker$Totals") (T := T_TO) (N := 4) hx hb htb in_TO hown hK hP ht hf rfl 2 (by decide) (htb _ tw_105) (fun _ h9 => h9) rfl d_TO_addSpace_6 ?_
  refine lv_lload_n hx hb d_TO_addSpace_9 rfl (lv_at hl 1 rfl) ?_
  refine lv_ladd hx hb d_TO_addSpace_10 ?_
  refine lv_ladd hx hb d_TO_addSpace_11 ?_
  refine pz_put (ci := 3) (v := .long (len + (dep + x))) (ty := .long) (C := "PageMaker$Totals") (T := T_TO) (N := 4) hx hb htb in_TO ty_TO to_TO nm_TO hown hK hP hD hS ht hf rfl 1 (by decide) (htb _ tw_100) (fun _ h9 => h9) rfl rfl rfl rfl (Nat.le_of_ble_eq_true rfl) d_TO_addSpace_12 (fun f1 H locs ef1 hP hD hS => ?_)
  have ef1 : f1 = va_up f t (.inr (3, [.ref st, .long (len + (dep + x)), .long dep, .long shr])) := ef1
  refine lv_aload_n hx hb d_TO_addSpace_15 rfl (lv_at hl 0 rfl) ?_
  refine lv_lconst (v := 0) hx hb d_TO_addSpace_16 rfl ?_
  have h_2 : f1 t = .inr (3, [.ref st, .long (len + (dep + x)), .long dep, .long shr]) := by rw [ef1]; exact va_up_self _ _ _
  refine pz_put (ci := 3) (v := .long 0) (ty := .long) (C := "PageMaker$Totals") (T := T_TO) (N := 4) hx hb htb in_TO ty_TO to_TO nm_TO hown hK hP hD hS ht h_2 rfl 2 (by decide) (htb _ tw_105) (fun _ h9 => h9) rfl rfl rfl rfl (Nat.le_of_ble_eq_true rfl) d_TO_addSpace_17 (fun f3 H locs ef3 hP hD hS => ?_)
  have ef3 : f3 = va_up f1 t (.inr (3, [.ref st, .long (len + (dep + x)), .long 0, .long shr])) := ef3
  exact pz_vret hx hb hr hlocks hK hP hD hS (Nat.le_of_ble_eq_true rfl) (Nat.le_of_ble_eq_true rfl) (by rw [ef3, ef1, bx_uu]) d_TO_addSpace_20
