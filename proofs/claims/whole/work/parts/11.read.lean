/-! methods that change nothing -/
set_option maxHeartbeats 4000000 in
set_option maxRecDepth 100000 in
/-- proportion(pa, am, to) -/
theorem c_PM_proportion (l : Launch) (pa am to : Int64) : pJ l y_PM_proportion w_PM_proportion ({ frames := 0, cells := 0, slots := 0, locals := 0 }) [.long pa, .long am, .long to] (fun r => r = k_prop pa am to) := by
  refine pz_metP (cc := prog_1_method_26_code) (maxL := 13) (ret := (some .long)) (by decide) rfl (Nat.le_of_ble_eq_true rfl) ?_
  intro p e s m below meth c ls hx hb hr hml hts hown hlocks hl
  have htb : ∀ w ∈ TB, w.before _ s = true := fun w h => hts w (List.mem_cons_of_mem _ h)
  have hl : lv_has ls 13 [(0, .long pa), (2, .long am), (4, .long to)] := hl
  refine lv_lload hx hb d_PM_proportion_0 (lv_at hl 2 rfl) ?_
  refine lv_lconst (v := 0) hx hb d_PM_proportion_2 rfl ?_
  refine pz_lgt (tgt := 9) hx hb d_PM_proportion_3 d_PM_proportion_4 (by decide) (fun c_1 => ?_) (fun c_1 => ?_)
  · refine lv_lconst (v := 0) hx hb d_PM_proportion_9 rfl ?_
    refine lv_lstore (lv' := [(6, .long 0), (0, .long pa), (2, .long am), (4, .long to)]) hx hb d_PM_proportion_10 hl (by decide) rfl (fun ls hl => ?_)
    refine lv_lconst (v := 0) hx hb d_PM_proportion_12 rfl ?_
    refine lv_lstore (lv' := [(8, .long 0), (6, .long 0), (0, .long pa), (2, .long am), (4, .long to)]) hx hb d_PM_proportion_13 hl (by decide) rfl (fun ls hl => ?_)
    refine lv_bipush (v := 48) hx hb d_PM_proportion_15 (by decide) ?_
    refine lv_istore (lv' := [(10, .int 48), (8, .long 0), (6, .long 0), (0, .long pa), (2, .long am), (4, .long to)]) hx hb d_PM_proportion_17 hl (by decide) rfl (fun ls hl => ?_)
    refine lv_iload hx hb d_PM_proportion_19 (lv_at hl 0 rfl) ?_
    refine lv_if_lt (tgt := 68) hx hb d_PM_proportion_21 (by decide) (fun c0 => absurd c0 (by decide)) (fun _ => ?_)
    refine lv_lload hx hb d_PM_proportion_24 (lv_at hl 1 rfl) ?_
    refine lv_bipush (v := 16) hx hb d_PM_proportion_26 (by decide) ?_
    refine lv_lshl hx hb d_PM_proportion_28 rfl ?_
    refine lv_lload_n hx hb d_PM_proportion_29 rfl (lv_at hl 3 rfl) ?_
    refine lv_lload_n hx hb d_PM_proportion_30 rfl (lv_at hl 4 rfl) ?_
    refine lv_iload hx hb d_PM_proportion_31 (lv_at hl 0 rfl) ?_
    refine lv_lushr hx hb d_PM_proportion_33 rfl ?_
    refine lv_ldc2 (v := 65535) hx hb hown (htb _ tw_650) d_PM_proportion_34 ?_
    refine lv_land hx hb d_PM_proportion_37 ?_
    refine lv_lmul hx hb d_PM_proportion_38 ?_
    refine lv_ladd hx hb d_PM_proportion_39 ?_
    refine lv_topl (fun x2 ex2 => ?_)
    refine lv_lstore (lv' := [(11, .long x2), (10, .int 48), (8, .long 0), (6, .long 0), (0, .long pa), (2, .long am), (4, .long to)]) hx hb d_PM_proportion_40 hl (by decide) rfl (fun ls hl => ?_)
    refine lv_lload hx hb d_PM_proportion_42 (lv_at hl 3 rfl) ?_
    refine lv_bipush (v := 16) hx hb d_PM_proportion_44 (by decide) ?_
    refine lv_lshl hx hb d_PM_proportion_46 rfl ?_
    refine lv_lload hx hb d_PM_proportion_47 (lv_at hl 0 rfl) ?_
    refine lv_lload hx hb d_PM_proportion_49 (lv_at hl 6 rfl) ?_
    have hne3 : ¬ to = 0 := k_pos c_1
    refine lv_ldiv hx hb d_PM_proportion_51 hne3 ?_
    refine lv_ladd hx hb d_PM_proportion_52 ?_
    refine lv_topl (fun x4 ex4 => ?_)
    refine lv_lstore (lv' := [(6, .long x4), (11, .long x2), (10, .int 48), (8, .long 0), (0, .long pa), (2, .long am), (4, .long to)]) hx hb d_PM_proportion_53 hl (by decide) rfl (fun ls hl => ?_)
    refine lv_lload hx hb d_PM_proportion_55 (lv_at hl 1 rfl) ?_
    refine lv_lload hx hb d_PM_proportion_57 (lv_at hl 6 rfl) ?_
    have hne5 : ¬ to = 0 := k_pos c_1
    refine lv_lrem hx hb d_PM_proportion_59 hne5 ?_
    refine lv_topl (fun x6 ex6 => ?_)
    refine lv_lstore (lv' := [(8, .long x6), (6, .long x4), (11, .long x2), (10, .int 48), (0, .long pa), (2, .long am), (4, .long to)]) hx hb d_PM_proportion_60 hl (by decide) rfl (fun ls hl => ?_)
    refine lv_iinc (v := 32) (lv' := [(10, .int 32), (8, .long x6), (6, .long x4), (11, .long x2), (0, .long pa), (2, .long am), (4, .long to)]) hx hb d_PM_proportion_62 hl (k := 3) rfl (by decide) (by decide) rfl (fun ls hl => ?_)
    refine lv_goto (tgt := 19) hx hb d_PM_proportion_65 (by decide) ?_
    refine lv_iload hx hb d_PM_proportion_19 (lv_at hl 0 rfl) ?_
    have ex2 : x2 = k_pd pa am 48 0 := ex2
    have ex6 : x6 = k_rem x2 to := ex6
    refine lv_if_lt (tgt := 68) hx hb d_PM_proportion_21 (by decide) (fun c0 => absurd c0 (by decide)) (fun _ => ?_)
    refine lv_lload hx hb d_PM_proportion_24 (lv_at hl 1 rfl) ?_
    refine lv_bipush (v := 16) hx hb d_PM_proportion_26 (by decide) ?_
    refine lv_lshl hx hb d_PM_proportion_28 rfl ?_
    refine lv_lload_n hx hb d_PM_proportion_29 rfl (lv_at hl 4 rfl) ?_
    refine lv_lload_n hx hb d_PM_proportion_30 rfl (lv_at hl 5 rfl) ?_
    refine lv_iload hx hb d_PM_proportion_31 (lv_at hl 0 rfl) ?_
    refine lv_lushr hx hb d_PM_proportion_33 rfl ?_
    refine lv_ldc2 (v := 65535) hx hb hown (htb _ tw_650) d_PM_proportion_34 ?_
    refine lv_land hx hb d_PM_proportion_37 ?_
    refine lv_lmul hx hb d_PM_proportion_38 ?_
    refine lv_ladd hx hb d_PM_proportion_39 ?_
    refine lv_topl (fun x7 ex7 => ?_)
    refine lv_lstore (lv' := [(11, .long x7), (10, .int 32), (8, .long x6), (6, .long x4), (0, .long pa), (2, .long am), (4, .long to)]) hx hb d_PM_proportion_40 hl (by decide) rfl (fun ls hl => ?_)
    refine lv_lload hx hb d_PM_proportion_42 (lv_at hl 3 rfl) ?_
    refine lv_bipush (v := 16) hx hb d_PM_proportion_44 (by decide) ?_
    refine lv_lshl hx hb d_PM_proportion_46 rfl ?_
    refine lv_lload hx hb d_PM_proportion_47 (lv_at hl 0 rfl) ?_
    refine lv_lload hx hb d_PM_proportion_49 (lv_at hl 6 rfl) ?_
    have hne8 : ¬ to = 0 := k_pos c_1
    refine lv_ldiv hx hb d_PM_proportion_51 hne8 ?_
    refine lv_ladd hx hb d_PM_proportion_52 ?_
    refine lv_topl (fun x9 ex9 => ?_)
    refine lv_lstore (lv' := [(6, .long x9), (11, .long x7), (10, .int 32), (8, .long x6), (0, .long pa), (2, .long am), (4, .long to)]) hx hb d_PM_proportion_53 hl (by decide) rfl (fun ls hl => ?_)
    refine lv_lload hx hb d_PM_proportion_55 (lv_at hl 1 rfl) ?_
    refine lv_lload hx hb d_PM_proportion_57 (lv_at hl 6 rfl) ?_
    have hne10 : ¬ to = 0 := k_pos c_1
    refine lv_lrem hx hb d_PM_proportion_59 hne10 ?_
    refine lv_topl (fun x11 ex11 => ?_)
    refine lv_lstore (lv' := [(8, .long x11), (6, .long x9), (11, .long x7), (10, .int 32), (0, .long pa), (2, .long am), (4, .long to)]) hx hb d_PM_proportion_60 hl (by decide) rfl (fun ls hl => ?_)
    refine lv_iinc (v := 16) (lv' := [(10, .int 16), (8, .long x11), (6, .long x9), (11, .long x7), (0, .long pa), (2, .long am), (4, .long to)]) hx hb d_PM_proportion_62 hl (k := 3) rfl (by decide) (by decide) rfl (fun ls hl => ?_)
    refine lv_goto (tgt := 19) hx hb d_PM_proportion_65 (by decide) ?_
    refine lv_iload hx hb d_PM_proportion_19 (lv_at hl 0 rfl) ?_
    have ex7 : x7 = k_pd pa am 32 x6 := ex7
    have ex11 : x11 = k_rem x7 to := ex11
    refine lv_if_lt (tgt := 68) hx hb d_PM_proportion_21 (by decide) (fun c0 => absurd c0 (by decide)) (fun _ => ?_)
    refine lv_lload hx hb d_PM_proportion_24 (lv_at hl 1 rfl) ?_
    refine lv_bipush (v := 16) hx hb d_PM_proportion_26 (by decide) ?_
    refine lv_lshl hx hb d_PM_proportion_28 rfl ?_
    refine lv_lload_n hx hb d_PM_proportion_29 rfl (lv_at hl 4 rfl) ?_
    refine lv_lload_n hx hb d_PM_proportion_30 rfl (lv_at hl 5 rfl) ?_
    refine lv_iload hx hb d_PM_proportion_31 (lv_at hl 0 rfl) ?_
    refine lv_lushr hx hb d_PM_proportion_33 rfl ?_
    refine lv_ldc2 (v := 65535) hx hb hown (htb _ tw_650) d_PM_proportion_34 ?_
    refine lv_land hx hb d_PM_proportion_37 ?_
    refine lv_lmul hx hb d_PM_proportion_38 ?_
    refine lv_ladd hx hb d_PM_proportion_39 ?_
    refine lv_topl (fun x12 ex12 => ?_)
    refine lv_lstore (lv' := [(11, .long x12), (10, .int 16), (8, .long x11), (6, .long x9), (0, .long pa), (2, .long am), (4, .long to)]) hx hb d_PM_proportion_40 hl (by decide) rfl (fun ls hl => ?_)
    refine lv_lload hx hb d_PM_proportion_42 (lv_at hl 3 rfl) ?_
    refine lv_bipush (v := 16) hx hb d_PM_proportion_44 (by decide) ?_
    refine lv_lshl hx hb d_PM_proportion_46 rfl ?_
    refine lv_lload hx hb d_PM_proportion_47 (lv_at hl 0 rfl) ?_
    refine lv_lload hx hb d_PM_proportion_49 (lv_at hl 6 rfl) ?_
    have hne13 : ¬ to = 0 := k_pos c_1
    refine lv_ldiv hx hb d_PM_proportion_51 hne13 ?_
    refine lv_ladd hx hb d_PM_proportion_52 ?_
    refine lv_topl (fun x14 ex14 => ?_)
    refine lv_lstore (lv' := [(6, .long x14), (11, .long x12), (10, .int 16), (8, .long x11), (0, .long pa), (2, .long am), (4, .long to)]) hx hb d_PM_proportion_53 hl (by decide) rfl (fun ls hl => ?_)
    refine lv_lload hx hb d_PM_proportion_55 (lv_at hl 1 rfl) ?_
    refine lv_lload hx hb d_PM_proportion_57 (lv_at hl 6 rfl) ?_
    have hne15 : ¬ to = 0 := k_pos c_1
    refine lv_lrem hx hb d_PM_proportion_59 hne15 ?_
    refine lv_topl (fun x16 ex16 => ?_)
    refine lv_lstore (lv' := [(8, .long x16), (6, .long x14), (11, .long x12), (10, .int 16), (0, .long pa), (2, .long am), (4, .long to)]) hx hb d_PM_proportion_60 hl (by decide) rfl (fun ls hl => ?_)
    refine lv_iinc (v := 0) (lv' := [(10, .int 0), (8, .long x16), (6, .long x14), (11, .long x12), (0, .long pa), (2, .long am), (4, .long to)]) hx hb d_PM_proportion_62 hl (k := 3) rfl (by decide) (by decide) rfl (fun ls hl => ?_)
    refine lv_goto (tgt := 19) hx hb d_PM_proportion_65 (by decide) ?_
    refine lv_iload hx hb d_PM_proportion_19 (lv_at hl 0 rfl) ?_
    have ex12 : x12 = k_pd pa am 16 x11 := ex12
    have ex16 : x16 = k_rem x12 to := ex16
    refine lv_if_lt (tgt := 68) hx hb d_PM_proportion_21 (by decide) (fun c0 => absurd c0 (by decide)) (fun _ => ?_)
    refine lv_lload hx hb d_PM_proportion_24 (lv_at hl 1 rfl) ?_
    refine lv_bipush (v := 16) hx hb d_PM_proportion_26 (by decide) ?_
    refine lv_lshl hx hb d_PM_proportion_28 rfl ?_
    refine lv_lload_n hx hb d_PM_proportion_29 rfl (lv_at hl 4 rfl) ?_
    refine lv_lload_n hx hb d_PM_proportion_30 rfl (lv_at hl 5 rfl) ?_
    refine lv_iload hx hb d_PM_proportion_31 (lv_at hl 0 rfl) ?_
    refine lv_lushr hx hb d_PM_proportion_33 rfl ?_
    refine lv_ldc2 (v := 65535) hx hb hown (htb _ tw_650) d_PM_proportion_34 ?_
    refine lv_land hx hb d_PM_proportion_37 ?_
    refine lv_lmul hx hb d_PM_proportion_38 ?_
    refine lv_ladd hx hb d_PM_proportion_39 ?_
    refine lv_topl (fun x17 ex17 => ?_)
    refine lv_lstore (lv' := [(11, .long x17), (10, .int 0), (8, .long x16), (6, .long x14), (0, .long pa), (2, .long am), (4, .long to)]) hx hb d_PM_proportion_40 hl (by decide) rfl (fun ls hl => ?_)
    refine lv_lload hx hb d_PM_proportion_42 (lv_at hl 3 rfl) ?_
    refine lv_bipush (v := 16) hx hb d_PM_proportion_44 (by decide) ?_
    refine lv_lshl hx hb d_PM_proportion_46 rfl ?_
    refine lv_lload hx hb d_PM_proportion_47 (lv_at hl 0 rfl) ?_
    refine lv_lload hx hb d_PM_proportion_49 (lv_at hl 6 rfl) ?_
    have hne18 : ¬ to = 0 := k_pos c_1
    refine lv_ldiv hx hb d_PM_proportion_51 hne18 ?_
    refine lv_ladd hx hb d_PM_proportion_52 ?_
    refine lv_topl (fun x19 ex19 => ?_)
    refine lv_lstore (lv' := [(6, .long x19), (11, .long x17), (10, .int 0), (8, .long x16), (0, .long pa), (2, .long am), (4, .long to)]) hx hb d_PM_proportion_53 hl (by decide) rfl (fun ls hl => ?_)
    refine lv_lload hx hb d_PM_proportion_55 (lv_at hl 1 rfl) ?_
    refine lv_lload hx hb d_PM_proportion_57 (lv_at hl 6 rfl) ?_
    have hne20 : ¬ to = 0 := k_pos c_1
    refine lv_lrem hx hb d_PM_proportion_59 hne20 ?_
    refine lv_topl (fun x21 ex21 => ?_)
    refine lv_lstore (lv' := [(8, .long x21), (6, .long x19), (11, .long x17), (10, .int 0), (0, .long pa), (2, .long am), (4, .long to)]) hx hb d_PM_proportion_60 hl (by decide) rfl (fun ls hl => ?_)
    refine lv_iinc (v := (-16)) (lv' := [(10, .int (-16)), (8, .long x21), (6, .long x19), (11, .long x17), (0, .long pa), (2, .long am), (4, .long to)]) hx hb d_PM_proportion_62 hl (k := 3) rfl (by decide) (by decide) rfl (fun ls hl => ?_)
    refine lv_goto (tgt := 19) hx hb d_PM_proportion_65 (by decide) ?_
    refine lv_iload hx hb d_PM_proportion_19 (lv_at hl 0 rfl) ?_
    have ex17 : x17 = k_pd pa am 0 x16 := ex17
    have ex21 : x21 = k_rem x17 to := ex21
    refine lv_if_lt (tgt := 68) hx hb d_PM_proportion_21 (by decide) (fun _ => ?_) (fun c0 => absurd c0 (by decide))
    refine lv_ldc2 (v := 2) hx hb hown (htb _ tw_651) d_PM_proportion_68 ?_
    refine lv_lload hx hb d_PM_proportion_71 (lv_at hl 1 rfl) ?_
    refine lv_lmul hx hb d_PM_proportion_73 ?_
    refine lv_lload hx hb d_PM_proportion_74 (lv_at hl 6 rfl) ?_
    refine pz_llt (tgt := 87) hx hb d_PM_proportion_76 d_PM_proportion_77 (by decide) (fun c_22 => ?_) (fun c_22 => ?_)
    · refine lv_lload hx hb d_PM_proportion_87 (lv_at hl 2 rfl) ?_
      exact pz_lretS hx hb hr hlocks (by subst ex21; subst ex19; subst ex17; subst ex16; subst ex14; subst ex12; subst ex11; subst ex9; subst ex7; subst ex6; subst ex4; subst ex2; rw [k_prop, if_neg (k_nle c_1), if_neg (k_nlt' c_22)]) d_PM_proportion_89
    · refine lv_lload hx hb d_PM_proportion_80 (lv_at hl 2 rfl) ?_
      refine lv_lconst (v := 1) hx hb d_PM_proportion_82 rfl ?_
      refine lv_ladd hx hb d_PM_proportion_83 ?_
      refine lv_goto (tgt := 89) hx hb d_PM_proportion_84 (by decide) ?_
      exact pz_lretS hx hb hr hlocks (by subst ex21; subst ex19; subst ex17; subst ex16; subst ex14; subst ex12; subst ex11; subst ex9; subst ex7; subst ex6; subst ex4; subst ex2; rw [k_prop, if_neg (k_nle c_1), if_pos c_22]) d_PM_proportion_89
  · refine lv_lconst (v := 0) hx hb d_PM_proportion_7 rfl ?_
    exact pz_lretS hx hb hr hlocks (by rw [k_prop, if_pos c_1]) d_PM_proportion_8
set_option maxHeartbeats 4000000 in
set_option maxRecDepth 100000 in
/-- EndedPage.holds(it) -/
theorem c_EP_holds (l : Launch) (G : gG) (L : List Nat) (f : Nat → va_E) (sz : Nat) (q fr : Nat) (i1 i2 i3 i4 i5 i6 it : Int32) (j1 j2 : Int64) (hq : q ∈ L) (hf : f q = .inr (9, [.ref fr, .int i1, .int i2, .int i3, .int i4, .int i5, .long j1, .int i6, .long j2])) : sI l y_EP_holds w_EP_holds ({ frames := 0, cells := 0, slots := 0, locals := 0 }) G L f sz [.ref q, .int it] (k_b (i1 ≤ it ∧ it < i2)) := by
  refine pz_met (cc := prog_3_method_2_code) (maxL := 2) (ret := (some .boolean)) (by decide) rfl (Nat.le_of_ble_eq_true rfl) ?_
  intro p e s m below meth c ls hx hb hr hml hts hown hlocks hin hsz hK hP hD hS hA hz hl
  have htb : ∀ w ∈ TB, w.before _ s = true := fun w h => hts w (List.mem_cons_of_mem _ h)
  have hl : lv_has ls 2 [(0, .ref q), (1, .int it)] := hl
  refine lv_iload_n hx hb d_EP_holds_0 rfl (lv_at hl 1 rfl) ?_
  refine lv_aload_n hx hb d_EP_holds_1 rfl (lv_at hl 0 rfl) ?_
  refine pz_get (ci := 9) (C := "PageMaker$EndedPage") (T := T_EP) (N := 9) hx hb htb in_EP hown hK hP hq hf rfl 1 (by decide) (htb _ tw_490) (fun _ h9 => h9) rfl d_EP_holds_2 ?_
  refine lv_icmp_lt (tgt := 20) hx hb d_EP_holds_5 (by decide) (fun c_1 => ?_) (fun c_1 => ?_)
  · refine lv_iconst (v := 0) hx hb d_EP_holds_20 (by decide) ?_
    exact pz_iretS hx hb hr rfl hlocks (k_b0 (fun h => absurd h.1 (i32_nle c_1))) d_EP_holds_21
  · refine lv_iload_n hx hb d_EP_holds_8 rfl (lv_at hl 1 rfl) ?_
    refine lv_aload_n hx hb d_EP_holds_9 rfl (lv_at hl 0 rfl) ?_
    refine pz_get (ci := 9) (C := "PageMaker$EndedPage") (T := T_EP) (N := 9) hx hb htb in_EP hown hK hP hq hf rfl 2 (by decide) (htb _ tw_492) (fun _ h9 => h9) rfl d_EP_holds_10 ?_
    refine lv_icmp_ge (tgt := 20) hx hb d_EP_holds_13 (by decide) (fun c_2 => ?_) (fun c_2 => ?_)
    · refine lv_iconst (v := 0) hx hb d_EP_holds_20 (by decide) ?_
      exact pz_iretS hx hb hr rfl hlocks (k_b0 (fun h => absurd h.2 (i32_nlt c_2))) d_EP_holds_21
    · refine lv_iconst (v := 1) hx hb d_EP_holds_16 (by decide) ?_
      refine lv_goto (tgt := 21) hx hb d_EP_holds_17 (by decide) ?_
      exact pz_iretS hx hb hr rfl hlocks (k_b1 ⟨i32_le c_1, i32_lt c_2⟩) d_EP_holds_21
set_option maxHeartbeats 4000000 in
set_option maxRecDepth 100000 in
/-- OpenPage.hasBegun() -/
theorem c_OP_hasBegun (l : Launch) (G : gG) (L : List Nat) (f : Nat → va_E) (sz : Nat) (q to fr : Nat) (i1 i2 i3 i4 i5 : Int32) (j1 : Int64) (hq : q ∈ L) (hf : f q = .inr (2, [.ref to, .ref fr, .int i1, .long j1, .int i2, .int i3, .int i4, .int i5])) : sI l y_OP_hasBegun w_OP_hasBegun ({ frames := 0, cells := 0, slots := 0, locals := 0 }) G L f sz [.ref q] (k_b (¬ i1 = (-1))) := by
  refine pz_met (cc := prog_8_method_2_code) (maxL := 1) (ret := (some .boolean)) (by decide) rfl (Nat.le_of_ble_eq_true rfl) ?_
  intro p e s m below meth c ls hx hb hr hml hts hown hlocks hin hsz hK hP hD hS hA hz hl
  have htb : ∀ w ∈ TB, w.before _ s = true := fun w h => hts w (List.mem_cons_of_mem _ h)
  have hl : lv_has ls 1 [(0, .ref q)] := hl
  refine lv_aload_n hx hb d_OP_hasBegun_0 rfl (lv_at hl 0 rfl) ?_
  refine pz_get (ci := 2) (C := "PageMaker$OpenPage") (T := T_OP) (N := 8) hx hb htb in_OP hown hK hP hq hf rfl 2 (by decide) (htb _ tw_129) (fun _ h9 => h9) rfl d_OP_hasBegun_1 ?_
  refine lv_iconst (v := (-1)) hx hb d_OP_hasBegun_4 (by decide) ?_
  refine lv_icmp_eq (tgt := 12) hx hb d_OP_hasBegun_5 (by decide) (fun c_1 => ?_) (fun c_1 => ?_)
  · refine lv_iconst (v := 0) hx hb d_OP_hasBegun_12 (by decide) ?_
    exact pz_iretS hx hb hr rfl hlocks (k_b0 (fun h => h c_1)) d_OP_hasBegun_13
  · refine lv_iconst (v := 1) hx hb d_OP_hasBegun_8 (by decide) ?_
    refine lv_goto (tgt := 13) hx hb d_OP_hasBegun_9 (by decide) ?_
    exact pz_iretS hx hb hr rfl hlocks (k_b1 c_1) d_OP_hasBegun_13
set_option maxHeartbeats 4000000 in
set_option maxRecDepth 100000 in
/-- Totals.greatestOrder() -/
theorem c_TO_greatestOrder (l : Launch) (G : gG) (L : List Nat) (f : Nat → va_E) (sz : Nat) (t sa : Nat) (len dep shr : Int64) (g : Nat → Int64) (ht : t ∈ L) (hf : f t = .inr (3, [.ref sa, .long len, .long dep, .long shr])) (hs : sa ∈ L) (hg : f sa = .inl (cJ G, 4, .inr (.inl g))) : sI l y_TO_greatestOrder w_TO_greatestOrder ({ frames := 0, cells := 0, slots := 0, locals := 0 }) G L f sz [.ref t] (fun r => r = k_go g) := by
  refine pz_met (cc := prog_10_method_4_code) (maxL := 2) (ret := (some .int)) (by decide) rfl (Nat.le_of_ble_eq_true rfl) ?_
  intro p e s m below meth c ls hx hb hr hml hts hown hlocks hin hsz hK hP hD hS hA hz hl
  have htb : ∀ w ∈ TB, w.before _ s = true := fun w h => hts w (List.mem_cons_of_mem _ h)
  have hl : lv_has ls 2 [(0, .ref t)] := hl
  refine lv_iconst (v := 3) hx hb d_TO_greatestOrder_0 (by decide) ?_
  refine lv_istore_n (lv' := [(1, .int 3), (0, .ref t)]) hx hb d_TO_greatestOrder_1 rfl hl (by decide) rfl (fun ls hl => ?_)
  refine lv_iload_n hx hb d_TO_greatestOrder_2 rfl (lv_at hl 0 rfl) ?_
  refine lv_if_le (tgt := 25) hx hb d_TO_greatestOrder_3 (by decide) (fun c0 => absurd c0 (by decide)) (fun _ => ?_)
  refine lv_aload_n hx hb d_TO_greatestOrder_6 rfl (lv_at hl 1 rfl) ?_
  refine pz_get (ci := 3) (C := "PageMaker$Totals") (T := T_TO) (N := 4) hx hb htb in_TO hown hK hP ht hf rfl 0 (by decide) (htb _ tw_96) (fun _ h9 => h9) rfl d_TO_greatestOrder_7 ?_
  refine lv_iload_n hx hb d_TO_greatestOrder_10 rfl (lv_at hl 0 rfl) ?_
  have hin1 : vp_in 3 4 := vp_in_nI (n := 3) (N := 4) (by decide) (by decide)
  refine pz_lald hx hb hK hP 1 hs hg rfl hin1 d_TO_greatestOrder_11 ?_
  refine lv_topl (fun x2 (ex2 : x2 = g 3) => ?_)
  subst ex2
  refine lv_lconst (v := 0) hx hb d_TO_greatestOrder_12 rfl ?_
  refine pz_lle (tgt := 19) hx hb d_TO_greatestOrder_13 d_TO_greatestOrder_14 (by decide) (fun c_3 => ?_) (fun c_3 => ?_)
  · refine lv_iinc (v := 2) (lv' := [(1, .int 2), (0, .ref t)]) hx hb d_TO_greatestOrder_19 hl (k := 0) rfl (by decide) (by decide) rfl (fun ls hl => ?_)
    refine lv_goto (tgt := 2) hx hb d_TO_greatestOrder_22 (by decide) ?_
    refine lv_iload_n hx hb d_TO_greatestOrder_2 rfl (lv_at hl 0 rfl) ?_
    refine lv_if_le (tgt := 25) hx hb d_TO_greatestOrder_3 (by decide) (fun c0 => absurd c0 (by decide)) (fun _ => ?_)
    refine lv_aload_n hx hb d_TO_greatestOrder_6 rfl (lv_at hl 1 rfl) ?_
    refine pz_get (ci := 3) (C := "PageMaker$Totals") (T := T_TO) (N := 4) hx hb htb in_TO hown hK hP ht hf rfl 0 (by decide) (htb _ tw_96) (fun _ h9 => h9) rfl d_TO_greatestOrder_7 ?_
    refine lv_iload_n hx hb d_TO_greatestOrder_10 rfl (lv_at hl 0 rfl) ?_
    have hin4 : vp_in 2 4 := vp_in_nI (n := 2) (N := 4) (by decide) (by decide)
    refine pz_lald hx hb hK hP 1 hs hg rfl hin4 d_TO_greatestOrder_11 ?_
    refine lv_topl (fun x5 (ex5 : x5 = g 2) => ?_)
    subst ex5
    refine lv_lconst (v := 0) hx hb d_TO_greatestOrder_12 rfl ?_
    refine pz_lle (tgt := 19) hx hb d_TO_greatestOrder_13 d_TO_greatestOrder_14 (by decide) (fun c_6 => ?_) (fun c_6 => ?_)
    · refine lv_iinc (v := 1) (lv' := [(1, .int 1), (0, .ref t)]) hx hb d_TO_greatestOrder_19 hl (k := 0) rfl (by decide) (by decide) rfl (fun ls hl => ?_)
      refine lv_goto (tgt := 2) hx hb d_TO_greatestOrder_22 (by decide) ?_
      refine lv_iload_n hx hb d_TO_greatestOrder_2 rfl (lv_at hl 0 rfl) ?_
      refine lv_if_le (tgt := 25) hx hb d_TO_greatestOrder_3 (by decide) (fun c0 => absurd c0 (by decide)) (fun _ => ?_)
      refine lv_aload_n hx hb d_TO_greatestOrder_6 rfl (lv_at hl 1 rfl) ?_
      refine pz_get (ci := 3) (C := "PageMaker$Totals") (T := T_TO) (N := 4) hx hb htb in_TO hown hK hP ht hf rfl 0 (by decide) (htb _ tw_96) (fun _ h9 => h9) rfl d_TO_greatestOrder_7 ?_
      refine lv_iload_n hx hb d_TO_greatestOrder_10 rfl (lv_at hl 0 rfl) ?_
      have hin7 : vp_in 1 4 := vp_in_nI (n := 1) (N := 4) (by decide) (by decide)
      refine pz_lald hx hb hK hP 1 hs hg rfl hin7 d_TO_greatestOrder_11 ?_
      refine lv_topl (fun x8 (ex8 : x8 = g 1) => ?_)
      subst ex8
      refine lv_lconst (v := 0) hx hb d_TO_greatestOrder_12 rfl ?_
      refine pz_lle (tgt := 19) hx hb d_TO_greatestOrder_13 d_TO_greatestOrder_14 (by decide) (fun c_9 => ?_) (fun c_9 => ?_)
      · refine lv_iinc (v := 0) (lv' := [(1, .int 0), (0, .ref t)]) hx hb d_TO_greatestOrder_19 hl (k := 0) rfl (by decide) (by decide) rfl (fun ls hl => ?_)
        refine lv_goto (tgt := 2) hx hb d_TO_greatestOrder_22 (by decide) ?_
        refine lv_iload_n hx hb d_TO_greatestOrder_2 rfl (lv_at hl 0 rfl) ?_
        refine lv_if_le (tgt := 25) hx hb d_TO_greatestOrder_3 (by decide) (fun _ => ?_) (fun c0 => absurd c0 (by decide))
        refine lv_iconst (v := 0) hx hb d_TO_greatestOrder_25 (by decide) ?_
        exact pz_iretS hx hb hr rfl hlocks (by rw [k_go, if_neg (k_nlt c_3), if_neg (k_nlt c_6), if_neg (k_nlt c_9)]) d_TO_greatestOrder_26
      · refine lv_iload_n hx hb d_TO_greatestOrder_17 rfl (lv_at hl 0 rfl) ?_
        exact pz_iretS hx hb hr rfl hlocks (by rw [k_go, if_neg (k_nlt c_3), if_neg (k_nlt c_6), if_pos c_9]) d_TO_greatestOrder_18
    · refine lv_iload_n hx hb d_TO_greatestOrder_17 rfl (lv_at hl 0 rfl) ?_
      exact pz_iretS hx hb hr rfl hlocks (by rw [k_go, if_neg (k_nlt c_3), if_pos c_6]) d_TO_greatestOrder_18
  · refine lv_iload_n hx hb d_TO_greatestOrder_17 rfl (lv_at hl 0 rfl) ?_
    exact pz_iretS hx hb hr rfl hlocks (by rw [k_go, if_pos c_3]) d_TO_greatestOrder_18
set_option maxHeartbeats 4000000 in
set_option maxRecDepth 100000 in
/-- Totals.badnessOfExcess(ex) -/
theorem c_TO_badnessOfExcess (l : Launch) (G : gG) (L : List Nat) (f : Nat → va_E) (sz : Nat) (t sa : Nat) (len dep shr ex : Int64) (g : Nat → Int64) (ht : t ∈ L) (hf : f t = .inr (3, [.ref sa, .long len, .long dep, .long shr])) (hs : sa ∈ L) (hg : f sa = .inl (cJ G, 4, .inr (.inl g))) : sI l y_TO_badnessOfExcess w_TO_badnessOfExcess ({ frames := 1, cells := 0, slots := 0, locals := 25 }) G L f sz [.ref t, .long ex] (fun r => r = k_boe g shr ex) := by
  refine pz_met (cc := prog_10_method_5_code) (maxL := 3) (ret := (some .int)) (by decide) rfl (Nat.le_of_ble_eq_true rfl) ?_
  intro p e s m below meth c ls hx hb hr hml hts hown hlocks hin hsz hK hP hD hS hA hz hl
  have htb : ∀ w ∈ TB, w.before _ s = true := fun w h => hts w (List.mem_cons_of_mem _ h)
  have hl : lv_has ls 3 [(0, .ref t), (1, .long ex)] := hl
  refine lv_lload_n hx hb d_TO_badnessOfExcess_0 rfl (lv_at hl 1 rfl) ?_
  refine lv_lconst (v := 0) hx hb d_TO_badnessOfExcess_1 rfl ?_
  refine pz_lle (tgt := 28) hx hb d_TO_badnessOfExcess_2 d_TO_badnessOfExcess_3 (by decide) (fun c_1 => ?_) (fun c_1 => ?_)
  · refine lv_lload_n hx hb d_TO_badnessOfExcess_28 rfl (lv_at hl 1 rfl) ?_
    refine lv_lconst (v := 0) hx hb d_TO_badnessOfExcess_29 rfl ?_
    refine pz_lne (tgt := 36) hx hb d_TO_badnessOfExcess_30 d_TO_badnessOfExcess_31 (by decide) (fun c_2 => ?_) (fun c_2 => ?_)
    · refine lv_lload_n hx hb d_TO_badnessOfExcess_36 rfl (lv_at hl 1 rfl) ?_
      refine lv_lneg hx hb d_TO_badnessOfExcess_37 ?_
      refine lv_aload_n hx hb d_TO_badnessOfExcess_38 rfl (lv_at hl 0 rfl) ?_
      refine pz_get (ci := 3) (C := "PageMaker$Totals") (T := T_TO) (N := 4) hx hb htb in_TO hown hK hP ht hf rfl 3 (by decide) (htb _ tw_108) (fun _ h9 => h9) rfl d_TO_badnessOfExcess_39 ?_
      refine pz_lle (tgt := 51) hx hb d_TO_badnessOfExcess_42 d_TO_badnessOfExcess_43 (by decide) (fun c_3 => ?_) (fun c_3 => ?_)
      · refine lv_lload_n hx hb d_TO_badnessOfExcess_51 rfl (lv_at hl 1 rfl) ?_
        refine lv_lneg hx hb d_TO_badnessOfExcess_52 ?_
        refine lv_aload_n hx hb d_TO_badnessOfExcess_53 rfl (lv_at hl 0 rfl) ?_
        refine pz_get (ci := 3) (C := "PageMaker$Totals") (T := T_TO) (N := 4) hx hb htb in_TO hown hK hP ht hf rfl 3 (by decide) (htb _ tw_108) (fun _ h9 => h9) rfl d_TO_badnessOfExcess_54 ?_
        refine vp_callSi (va_Run.run (va_runSN (As := [.long (-ex), .long shr]) (rest := []) ⟨hx, hb, hml, hown, hts⟩ (c_PM_badnessOf l (-ex) shr) ⟨va_cnB 2 hts (tb_good tw_428) rfl rfl rfl (hz.1 _ tn_426) (htb _ tw_1) (by decide +kernel) ⟨(Nat.le_of_ble_eq_true rfl), (Nat.le_of_ble_eq_true rfl)⟩, htb _ tw_427, trivial⟩ pz_preP rfl rfl hl.1 rfl (lv_room (Nat.le_of_ble_eq_true rfl)) d_TO_badnessOfExcess_57 ⟨(Nat.le_of_ble_eq_true rfl), (Nat.le_of_ble_eq_true rfl)⟩)) (fun r4 hw => ?_)
        have hw : r4 = (k_bad (-ex) shr) := hw
        subst r4
        exact pz_iretS hx hb hr rfl hlocks (by rw [k_boe, if_neg (k_nlt c_1), if_neg c_2, if_neg (k_nlt c_3)]) d_TO_badnessOfExcess_60
      · refine lv_ldc (v := 1073741823) hx hb hown (htb _ tw_435) d_TO_badnessOfExcess_46 ?_
        refine lv_goto (tgt := 60) hx hb d_TO_badnessOfExcess_48 (by decide) ?_
        exact pz_iretS hx hb hr rfl hlocks (by rw [k_boe, if_neg (k_nlt c_1), if_neg c_2, if_pos c_3]) d_TO_badnessOfExcess_60
    · refine lv_iconst (v := 0) hx hb d_TO_badnessOfExcess_34 (by decide) ?_
      exact pz_iretS hx hb hr rfl hlocks (by rw [k_boe, if_neg (k_nlt c_1), if_pos c_2]) d_TO_badnessOfExcess_35
  · refine lv_aload_n hx hb d_TO_badnessOfExcess_6 rfl (lv_at hl 0 rfl) ?_
    refine vp_callSi (va_Run.run (va_runV (As := []) (rest := []) ⟨hx, hb, hml, hown, hts⟩ (c_TO_greatestOrder l G L f _ t sa len dep shr g ht hf hs hg) (cwV 0 hts (tb_V tw_422 tw_423 tw_424 tw_7 tw_425) rfl rfl rfl (by decide +kernel) ⟨(Nat.le_of_ble_eq_true rfl), (Nat.le_of_ble_eq_true rfl)⟩) (pz_preV (zz_ok _ _ _) hK hP hD hS hA hz (ci := 3) rfl rfl ht hf) rfl rfl hl.1 rfl (lv_room (Nat.le_of_ble_eq_true rfl)) d_TO_badnessOfExcess_7 ⟨(Nat.le_of_ble_eq_true rfl), (Nat.le_of_ble_eq_true rfl)⟩)) (fun r5 hw => ?_)
    have hw : r5 = (k_go g) := hw
    subst r5
    refine lv_if_le (tgt := 17) hx hb d_TO_badnessOfExcess_10 (by decide) (fun c_6 => ?_) (fun c_6 => ?_)
    · refine lv_lload_n hx hb d_TO_badnessOfExcess_17 rfl (lv_at hl 1 rfl) ?_
      refine lv_aload_n hx hb d_TO_badnessOfExcess_18 rfl (lv_at hl 0 rfl) ?_
      refine pz_get (ci := 3) (C := "PageMaker$Totals") (T := T_TO) (N := 4) hx hb htb in_TO hown hK hP ht hf rfl 0 (by decide) (htb _ tw_96) (fun _ h9 => h9) rfl d_TO_badnessOfExcess_19 ?_
      refine lv_iconst (v := 0) hx hb d_TO_badnessOfExcess_22 (by decide) ?_
      have hin7 : vp_in 0 4 := vp_in_nI (n := 0) (N := 4) (by decide) (by decide)
      refine pz_lald hx hb hK hP 1 hs hg rfl hin7 d_TO_badnessOfExcess_23 ?_
      refine lv_topl (fun x8 (ex8 : x8 = g 0) => ?_)
      subst ex8
      refine vp_callSi (va_Run.run (va_runSN (As := [.long ex, .long (g 0)]) (rest := []) ⟨hx, hb, hml, hown, hts⟩ (c_PM_badnessOf l ex (g 0)) ⟨va_cnB 2 hts (tb_good tw_428) rfl rfl rfl (hz.1 _ tn_426) (htb _ tw_1) (by decide +kernel) ⟨(Nat.le_of_ble_eq_true rfl), (Nat.le_of_ble_eq_true rfl)⟩, htb _ tw_427, trivial⟩ pz_preP rfl rfl hl.1 rfl (lv_room (Nat.le_of_ble_eq_true rfl)) d_TO_badnessOfExcess_24 ⟨(Nat.le_of_ble_eq_true rfl), (Nat.le_of_ble_eq_true rfl)⟩)) (fun r9 hw => ?_)
      have hw : r9 = (k_bad ex (g 0)) := hw
      subst r9
      exact pz_iretS hx hb hr rfl hlocks (by rw [k_boe, if_pos c_1, if_neg (i32_nlt c_6)]) d_TO_badnessOfExcess_27
    · refine lv_iconst (v := 0) hx hb d_TO_badnessOfExcess_13 (by decide) ?_
      refine lv_goto (tgt := 27) hx hb d_TO_badnessOfExcess_14 (by decide) ?_
      exact pz_iretS hx hb hr rfl hlocks (by rw [k_boe, if_pos c_1, if_pos (i32_lt c_6)]) d_TO_badnessOfExcess_27
set_option maxHeartbeats 4000000 in
set_option maxRecDepth 100000 in
/-- EndedPage.shareOf(t) -/
theorem c_EP_shareOf (l : Launch) (G : gG) (L : List Nat) (f : Nat → va_E) (sz : Nat) (q fr t sa : Nat) (i1 i2 i3 i4 i5 i6 : Int32) (j1 j2 len dep shr : Int64) (g : Nat → Int64) (hq : q ∈ L) (hf : f q = .inr (9, [.ref fr, .int i1, .int i2, .int i3, .int i4, .int i5, .long j1, .int i6, .long j2])) (ht : t ∈ L) (hft : f t = .inr (3, [.ref sa, .long len, .long dep, .long shr])) (hs : sa ∈ L) (hg : f sa = .inl (cJ G, 4, .inr (.inl g))) (h6 : vp_in i6 4) : sJ l y_EP_shareOf w_EP_shareOf ({ frames := 1, cells := 0, slots := 0, locals := 40 }) G L f sz [.ref q, .ref t] (fun r => r = if 0 < j1 then k_prop (g i6.toNatClampNeg) j1 j2 else -k_prop shr (if j2 < -j1 then j2 else -j1) j2) := by
  refine pz_met (cc := prog_3_method_3_code) (maxL := 2) (ret := (some .long)) (by decide) rfl (Nat.le_of_ble_eq_true rfl) ?_
  intro p e s m below meth c ls hx hb hr hml hts hown hlocks hin hsz hK hP hD hS hA hz hl
  have htb : ∀ w ∈ TB, w.before _ s = true := fun w h => hts w (List.mem_cons_of_mem _ h)
  have hl : lv_has ls 2 [(0, .ref q), (1, .ref t)] := hl
  refine lv_aload_n hx hb d_EP_shareOf_0 rfl (lv_at hl 0 rfl) ?_
  refine pz_get (ci := 9) (C := "PageMaker$EndedPage") (T := T_EP) (N := 9) hx hb htb in_EP hown hK hP hq hf rfl 6 (by decide) (htb _ tw_500) (fun _ h9 => h9) rfl d_EP_shareOf_1 ?_
  refine lv_lconst (v := 0) hx hb d_EP_shareOf_4 rfl ?_
  refine pz_lle (tgt := 30) hx hb d_EP_shareOf_5 d_EP_shareOf_6 (by decide) (fun c_1 => ?_) (fun c_1 => ?_)
  · refine lv_aload_n hx hb d_EP_shareOf_30 rfl (lv_at hl 1 rfl) ?_
    refine pz_get (ci := 3) (C := "PageMaker$Totals") (T := T_TO) (N := 4) hx hb htb in_TO hown hK hP ht hft rfl 3 (by decide) (htb _ tw_109) (fun _ h9 => h9) rfl d_EP_shareOf_31 ?_
    refine lv_aload_n hx hb d_EP_shareOf_34 rfl (lv_at hl 0 rfl) ?_
    refine pz_get (ci := 9) (C := "PageMaker$EndedPage") (T := T_EP) (N := 9) hx hb htb in_EP hown hK hP hq hf rfl 6 (by decide) (htb _ tw_500) (fun _ h9 => h9) rfl d_EP_shareOf_35 ?_
    refine lv_lneg hx hb d_EP_shareOf_38 ?_
    refine lv_aload_n hx hb d_EP_shareOf_39 rfl (lv_at hl 0 rfl) ?_
    refine pz_get (ci := 9) (C := "PageMaker$EndedPage") (T := T_EP) (N := 9) hx hb htb in_EP hown hK hP hq hf rfl 8 (by decide) (htb _ tw_504) (fun _ h9 => h9) rfl d_EP_shareOf_40 ?_
    refine va_mmin_long hx hb (hml.trans hl.1.symm) hown (htb _ tw_652) (htb _ tw_653) (htb _ tw_17) (htb _ tw_654) (Nat.le_of_ble_eq_true rfl) (Nat.le_of_ble_eq_true rfl) (Nat.le_of_ble_eq_true rfl) (Nat.le_of_ble_eq_true rfl) d_EP_shareOf_43 ?_
    refine lv_aload_n hx hb d_EP_shareOf_46 rfl (lv_at hl 0 rfl) ?_
    refine pz_get (ci := 9) (C := "PageMaker$EndedPage") (T := T_EP) (N := 9) hx hb htb in_EP hown hK hP hq hf rfl 8 (by decide) (htb _ tw_504) (fun _ h9 => h9) rfl d_EP_shareOf_47 ?_
    refine vp_callSl (va_Run.run (va_runSN (As := [.long shr, .long (if j2 < (-j1) then j2 else (-j1)), .long j2]) (rest := []) ⟨hx, hb, hml, hown, hts⟩ (c_PM_proportion l shr (if j2 < (-j1) then j2 else (-j1)) j2) ⟨va_cnB 3 hts (tb_good tw_649) rfl rfl rfl (hz.1 _ tn_647) (htb _ tw_1) (by decide +kernel) ⟨(Nat.le_of_ble_eq_true rfl), (Nat.le_of_ble_eq_true rfl)⟩, htb _ tw_648, trivial⟩ pz_preP rfl rfl hl.1 rfl (lv_room (Nat.le_of_ble_eq_true rfl)) d_EP_shareOf_50 ⟨(Nat.le_of_ble_eq_true rfl), (Nat.le_of_ble_eq_true rfl)⟩)) (fun r2 hw => ?_)
    have hw : r2 = (k_prop shr (if j2 < (-j1) then j2 else (-j1)) j2) := hw
    subst r2
    refine lv_lneg hx hb d_EP_shareOf_53 ?_
    exact pz_lretS hx hb hr hlocks (by rw [if_neg (k_nlt c_1)]) d_EP_shareOf_54
  · refine lv_aload_n hx hb d_EP_shareOf_9 rfl (lv_at hl 1 rfl) ?_
    refine pz_get (ci := 3) (C := "PageMaker$Totals") (T := T_TO) (N := 4) hx hb htb in_TO hown hK hP ht hft rfl 0 (by decide) (htb _ tw_97) (fun _ h9 => h9) rfl d_EP_shareOf_10 ?_
    refine lv_aload_n hx hb d_EP_shareOf_13 rfl (lv_at hl 0 rfl) ?_
    refine pz_get (ci := 9) (C := "PageMaker$EndedPage") (T := T_EP) (N := 9) hx hb htb in_EP hown hK hP hq hf rfl 7 (by decide) (htb _ tw_502) (fun _ h9 => h9) rfl d_EP_shareOf_14 ?_
    have hin3 : vp_in i6 4 := h6
    refine pz_lald hx hb hK hP 1 hs hg rfl hin3 d_EP_shareOf_17 ?_
    refine lv_aload_n hx hb d_EP_shareOf_18 rfl (lv_at hl 0 rfl) ?_
    refine pz_get (ci := 9) (C := "PageMaker$EndedPage") (T := T_EP) (N := 9) hx hb htb in_EP hown hK hP hq hf rfl 6 (by decide) (htb _ tw_500) (fun _ h9 => h9) rfl d_EP_shareOf_19 ?_
    refine lv_aload_n hx hb d_EP_shareOf_22 rfl (lv_at hl 0 rfl) ?_
    refine pz_get (ci := 9) (C := "PageMaker$EndedPage") (T := T_EP) (N := 9) hx hb htb in_EP hown hK hP hq hf rfl 8 (by decide) (htb _ tw_504) (fun _ h9 => h9) rfl d_EP_shareOf_23 ?_
    refine vp_callSl (va_Run.run (va_runSN (As := [.long (g i6.toNatClampNeg), .long j1, .long j2]) (rest := []) ⟨hx, hb, hml, hown, hts⟩ (c_PM_proportion l (g i6.toNatClampNeg) j1 j2) ⟨va_cnB 3 hts (tb_good tw_649) rfl rfl rfl (hz.1 _ tn_647) (htb _ tw_1) (by decide +kernel) ⟨(Nat.le_of_ble_eq_true rfl), (Nat.le_of_ble_eq_true rfl)⟩, htb _ tw_648, trivial⟩ pz_preP rfl rfl hl.1 rfl (lv_room (Nat.le_of_ble_eq_true rfl)) d_EP_shareOf_26 ⟨(Nat.le_of_ble_eq_true rfl), (Nat.le_of_ble_eq_true rfl)⟩)) (fun r4 hw => ?_)
    have hw : r4 = (k_prop (g i6.toNatClampNeg) j1 j2) := hw
    subst r4
    exact pz_lretS hx hb hr hlocks (by rw [if_pos c_1]) d_EP_shareOf_29
