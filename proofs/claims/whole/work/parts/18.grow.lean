/-! lists: growing, adding -/
section PZG
variable {p : Program} {l : Launch} {e : Env} {R : Room} {s : State} {m : MethodId} {args : Array Value} {below : List Frame} {meth : Method} {c : Code} {H : Heap} {locs : List Loc} {cells slots : Nat} {Q : State → Prop}
variable {cc : ByteArray} {pc : Nat} {ls : Array Slot} {rest : List Value} {D : va_G} {cl : List vw_C} {A : Nat → Prop} {tys : List (ClassId × FieldType)} {X : va_W} {L : List Nat} {f : Nat → va_E} {H0 : Heap}
theorem pz_copy (hexec : p.tables.exec = Jvm.exec) (hb : c.code = cc) (hml : c.maxLocals = ls.size) {own : String} {index : Nat} (hown : s.vm.findClass own = some m.cls) (hlink : (Cond.methodLink own index arraycopyName).before args s = true) (hnat : (Cond.native arraycopyName).before args s = true) (hstat : (Cond.static arraycopyName).before args s = true) (hini : (Cond.initialized "java/lang/System").before args s = true) (hK : va_K D cl tys s) (hP : va_P D cl (X ++ va_pl L f) H) (hD : va_D A (X ++ va_pl L f)) (hS : va_S A H0 H locs) (t0 t1 : Nat) {a0 a : Nat} {c0 c1 : ClassId} {n0 n1 : Nat} {f0 g : Nat → Option Nat} {E0 E1 : String} (h0 : a0 ∈ L) (hf0 : f a0 = .inl (c0, n0, .inr (.inr (.inr (.inr f0))))) (h9 : a ∈ L) (hf1 : f a = .inl (c1, n1, .inr (.inr (.inr (.inr g))))) (ht0 : tys[t0]? = some (c0, .object E0)) (ht1 : tys[t1]? = some (c1, .object E1)) {sp dp n : Int32} (h1 : ¬ sp < 0) (h2 : ¬ dp < 0) (h3 : ¬ n < 0) (h4 : sp.toNatClampNeg + n.toNatClampNeg ≤ n0) (h5 : dp.toNatClampNeg + n.toNatClampNeg ≤ n1) (hel : ∀ i : Nat, i < n.toNatClampNeg → ∀ y : Nat, f0 (sp.toNatClampNeg + i) = some y → va_Any E1 s H y) (hframes : 1 ≤ R.frames) (hlocals : (rest.map fun v => v.category).sum + (nativeFrameWords "java/lang/System" "arraycopy" 5 + 11) ≤ R.locals) (hdg : decode cc pc = .ok (.invokestatic index, 3))
    (kk : ∀ (f1 : Nat → va_E) (H1 : Heap) (locs1 : List Loc), f1 = va_up f a (.inl (c1, n1, .inr (.inr (.inr (.inr (va_cpy f0 g sp.toNatClampNeg dp.toNatClampNeg n.toNatClampNeg)))))) → va_P D cl (X ++ va_pl L f1) H1 → va_D A (X ++ va_pl L f1) → va_S A H0 H1 locs1 → W p l e R s m args below meth c H1 locs1 cells slots Q (F0 m (pc + 3) ls rest)) : W p l e R s m args below meth c H locs cells slots Q (F0 m pc ls (.int n :: .int dp :: .ref a :: .int sp :: .ref a0 :: rest)) := by
  obtain ⟨q0, he0⟩ := pz_at (X := X) h0 hf0
  obtain ⟨q1, he1⟩ := pz_at (X := X) h9 hf1
  refine va_copyM hexec hb hml hown hlink hnat hstat hini hK hP hD hS q0 q1 t0 t1 he0 he1 ht0 ht1 h1 h2 h3 h4 h5 hel hframes hlocals hdg (fun H1 locs1 hP1 hD1 hS1 => ?_)
  rw [pz_set hD h9 hf1 he1] at hP1 hD1
  exact kk _ H1 locs1 rfl hP1 hD1 hS1
theorem pz_arecv {a n : Nat} {cA : ClassId} {g : Nat → Option Nat} {G : gG} (hK : va_K D cl (gT G) s) (hP : va_P D cl (X ++ va_pl L f) H) (ha : a ∈ L) (hf : f a = .inl (cA, n, .inr (.inr (.inr (.inr g))))) (hc : cA = cO G) : ∃ cell : Cell, H[a]? = some cell ∧ cell.vm.isStatics = false ∧ s.vm.findClass "[Ljava/lang/Object;" = some cell.cls := by
  subst hc
  obtain ⟨q0, he⟩ := pz_at (X := X) ha hf
  exact ⟨_, hP q0 _ he, rfl, va_nmO (hK.2 2 (cO G, .object "java/lang/Object") rfl).2 rfl⟩
end PZG
/-- what may lie in the lists: an item or an ended page of the pool -/
def elOK (L : List Nat) (f : Nat → va_E) (y : Nat) : Prop := y ∈ L ∧ ∃ (ci : Nat) (fs : List Value), f y = .inr (ci, fs) ∧ (ci = 5 ∨ ci = 6 ∨ ci = 7 ∨ ci = 8 ∨ ci = 9)
theorem el_grow {L : List Nat} {f f1 : Nat → va_E} {y q : Nat} {e : va_E} (h : elOK L f y) (hq : q ∉ L) (ef : f1 = va_up f q e) : elOK (L ++ [q]) f1 y := by
  obtain ⟨h1, ci, fs, h2, h3⟩ := h
  exact ⟨List.mem_append_left _ h1, ci, fs, by rw [ef, va_up_ne _ _ (Ne.symm (pz_nef hq h1))]; exact h2, h3⟩
theorem el_any {s : State} {G : gG} {H : Heap} {X : va_W} {L : List Nat} {f : Nat → va_E} {y : Nat} (hz : ∀ w ∈ NB, va_Nw w s) (hK : va_K (gD G) cls9 (gT G) s) (hP : va_P (gD G) cls9 (X ++ va_pl L f) H) (h : elOK L f y) : va_Any "java/lang/Object" s H y := by
  obtain ⟨h1, ci, fs, h2, h3⟩ := h
  obtain ⟨q0, he⟩ := pz_at (X := X) h1 h2
  have key : ∀ {C : String}, va_Nw (.castable C "java/lang/Object") s → ∀ comp c0 : ClassId, s.vm.findClass "java/lang/Object" = some comp → s.vm.findClass C = some c0 → s.vm.assignable c0 comp = true := by
    intro C hc comp c0 g1 g2
    obtain ⟨c3, c4, q1, q2, q3⟩ := Cond.castable_spec hc
    cases Option.some.inj (q1.symm.trans g2)
    cases Option.some.inj (q2.symm.trans g1)
    exact q3
  rcases h3 with rfl | rfl | rfl | rfl | rfl
  · exact va_rAny hK hP he rfl (key (hz _ tn_901))
  · exact va_rAny hK hP he rfl (key (hz _ tn_903))
  · exact va_rAny hK hP he rfl (key (hz _ tn_904))
  · exact va_rAny hK hP he rfl (key (hz _ tn_905))
  · exact va_rAny hK hP he rfl (key (hz _ tn_902))
set_option maxHeartbeats 4000000 in
set_option maxRecDepth 100000 in
/-- Arrays.copyOf(q, N, class) -/
theorem c_AR_copyOf1 (l : Launch) (G : gG) (L : List Nat) (f : Nat → va_E) (sz : Nat) (q cap N : Nat) (a : Nat → Option Nat) (hq : q ∈ L) (hf : f q = .inl (cO G, cap, .inr (.inr (.inr (.inr a))))) (h1 : cap ≤ N) (h2 : N ≤ 1000) (hel : ∀ i, i < cap → ∀ y, a i = some y → elOK L f y) : mR l y_AR_copyOf1 w_AR_copyOf1 ({ frames := 1, cells := 1, slots := N, locals := 40 }) G L f sz [.ref q, .int (nI N), .ref G.2.2.2.1] 1 N (fun u => u.1 ∉ L ∧ u.2.1 = L ++ [u.1] ∧ u.2.2 = va_up f u.1 (.inl (cO G, N, .inr (.inr (.inr (.inr (va_cpy a (fun _ => none) 0 0 cap))))))) := by
  refine pz_met (cc := prog_28_method_120_code) (maxL := 4) (ret := (some (.array (.object "java/lang/Object")))) (by decide) rfl (Nat.le_of_ble_eq_true rfl) ?_
  intro p e s m below meth c ls hx hb hr hml hts hown hlocks hin hsz hK hP hD hS hA hz hl
  have htb : ∀ w ∈ TB, w.before _ s = true := fun w h => hts w (List.mem_cons_of_mem _ h)
  have hl : lv_has ls 4 [(0, .ref q), (1, .int (nI N)), (2, .ref G.2.2.2.1)] := hl
  refine lv_aload_n hx hb d_AR_copyOf1_0 rfl (lv_at hl 2 rfl) ?_
  refine va_ldcM hx hb hown (htb _ tw_370) hz.2.2.2.1 d_AR_copyOf1_1 ?_
  refine lv_acmp_ne (rx := some G.2.2.2.1) (ry := some G.2.2.2.1) (tgt := 13) hx hb d_AR_copyOf1_3 (by decide) (fun h9 => absurd rfl h9) (fun _ => ?_)
  refine lv_iload_n hx hb d_AR_copyOf1_6 rfl (lv_at hl 1 rfl) ?_
  refine pz_newo hx hb hown (htb _ tw_372) hz.2.2.1 hK hP hD hS hA 2 rfl N (nI_pos (by omega)) (nI_clamp (by omega)) (by omega) (Nat.le_of_ble_eq_true rfl) (by show 0 + N ≤ N; omega) d_AR_copyOf1_7 (fun q1 L1 f1 H hnq1 eL1 ef1 hP hD hS => ?_)
  subst L1
  refine lv_goto (tgt := 24) hx hb d_AR_copyOf1_10 (by decide) ?_
  refine lv_astore_n (lv' := [(3, .ref q1), (0, .ref q), (1, .int (nI N)), (2, .ref G.2.2.2.1)]) hx hb d_AR_copyOf1_24 rfl hl (by decide) rfl (fun ls hl => ?_)
  refine lv_aload_n hx hb d_AR_copyOf1_25 rfl (lv_at hl 1 rfl) ?_
  refine lv_iconst (v := 0) hx hb d_AR_copyOf1_26 (by decide) ?_
  refine lv_aload_n hx hb d_AR_copyOf1_27 rfl (lv_at hl 0 rfl) ?_
  refine lv_iconst (v := 0) hx hb d_AR_copyOf1_28 (by decide) ?_
  refine lv_aload_n hx hb d_AR_copyOf1_29 rfl (lv_at hl 1 rfl) ?_
  have h_1 : f1 q = .inl (cO G, cap, .inr (.inr (.inr (.inr a)))) := by rw [ef1, va_up_ne _ _ (Ne.symm (pz_nef hnq1 hq))]; exact hf
  refine pz_alen hx hb hK hP 2 (List.mem_append_left _ hq) h_1 rfl d_AR_copyOf1_30 ?_
  refine lv_iload_n hx hb d_AR_copyOf1_31 rfl (lv_at hl 2 rfl) ?_
  refine va_mmin hx hb (hml.trans hl.1.symm) hown (htb _ tw_373) (htb _ tw_374) (htb _ tw_17) (htb _ tw_375) (Nat.le_of_ble_eq_true rfl) (Nat.le_of_ble_eq_true rfl) (Nat.le_of_ble_eq_true rfl) (by show 0 + N ≤ N; omega) d_AR_copyOf1_32 ?_
  refine lv_topi (fun x9 ex9 => ?_)
  have ex9 : x9 = nI cap := ex9.trans (if_neg (nI_nlt h1 (by omega)))
  subst ex9
  have h_2 : f1 q1 = .inl (cO G, N, .inr (.inr (.inr (.inr (fun _ => none))))) := by rw [ef1]; exact va_up_self _ _ _
  have c0 : (nI cap).toNatClampNeg = cap := nI_clamp (by omega)
  have z0 : (0 : Int32).toNatClampNeg = 0 := by decide
  refine pz_copy hx hb (hml.trans hl.1.symm) hown (htb _ tw_376) (htb _ tw_378) (htb _ tw_377) (htb _ tw_19) hK hP hD hS 2 2 (List.mem_append_left _ hq) h_1 (l_in_new _ _) h_2 rfl rfl (by decide) (by decide) (nI_pos (by omega)) (by rw [c0, z0]; omega) (by rw [c0, z0]; omega) (fun i hi y hy => ?_) (Nat.le_of_ble_eq_true rfl) (Nat.le_of_ble_eq_true rfl) d_AR_copyOf1_35 (fun f2 H locs ef2 hP hD hS => ?_)
  · rw [c0] at hi
    rw [z0, Nat.zero_add] at hy
    refine el_any hz.1 hK hP (el_grow (hel i hi y hy) hnq1 ef1)
  rw [c0, z0] at ef2
  refine lv_aload_n hx hb d_AR_copyOf1_38 rfl (lv_at hl 0 rfl) ?_
  exact pz_aret hx hb hr (Or.inr ⟨_, rfl⟩) hlocks hK hP hD hS (Nat.le_of_ble_eq_true rfl) (by show 0 + N ≤ N; omega) ⟨hnq1, rfl, by rw [ef2, ef1, bx_uu]⟩ d_AR_copyOf1_39
set_option maxHeartbeats 4000000 in
set_option maxRecDepth 100000 in
/-- Arrays.copyOf(q, N) -/
theorem c_AR_copyOf0 (l : Launch) (G : gG) (L : List Nat) (f : Nat → va_E) (sz : Nat) (q cap N : Nat) (a : Nat → Option Nat) (hq : q ∈ L) (hf : f q = .inl (cO G, cap, .inr (.inr (.inr (.inr a))))) (h1 : cap ≤ N) (h2 : N ≤ 1000) (hel : ∀ i, i < cap → ∀ y, a i = some y → elOK L f y) : mR l y_AR_copyOf0 w_AR_copyOf0 ({ frames := 2, cells := 1, slots := N, locals := 63 }) G L f sz [.ref q, .int (nI N)] 1 N (fun u => u.1 ∉ L ∧ u.2.1 = L ++ [u.1] ∧ u.2.2 = va_up f u.1 (.inl (cO G, N, .inr (.inr (.inr (.inr (va_cpy a (fun _ => none) 0 0 cap))))))) := by
  refine pz_met (cc := prog_28_method_119_code) (maxL := 2) (ret := (some (.array (.object "java/lang/Object")))) (by decide) rfl (Nat.le_of_ble_eq_true rfl) ?_
  intro p e s m below meth c ls hx hb hr hml hts hown hlocks hin hsz hK hP hD hS hA hz hl
  have htb : ∀ w ∈ TB, w.before _ s = true := fun w h => hts w (List.mem_cons_of_mem _ h)
  have hl : lv_has ls 2 [(0, .ref q), (1, .int (nI N))] := hl
  refine lv_aload_n hx hb d_AR_copyOf0_0 rfl (lv_at hl 0 rfl) ?_
  refine lv_iload_n hx hb d_AR_copyOf0_1 rfl (lv_at hl 1 rfl) ?_
  refine lv_aload_n hx hb d_AR_copyOf0_2 rfl (lv_at hl 0 rfl) ?_
  refine va_getC (C := "[Ljava/lang/Object;") hx hb (hml.trans hl.1.symm) hown (htb _ tw_349) (va_Nw.use rfl (hz.1 _ tn_895)) (htb _ tw_894) (htb _ tw_350) (htb _ tw_366) hz.2.2.2.1 (pz_arecv hK hP hq hf rfl) (Nat.le_of_ble_eq_true rfl) (Nat.le_of_ble_eq_true rfl) d_AR_copyOf0_3 ?_
  refine pz_cr (va_runS (As := [.ref q, .int (nI N), .ref G.2.2.2.1]) (rest := []) ⟨hx, hb, hml, hown, hts⟩ (c_AR_copyOf1 l G L f _ q cap N a hq hf h1 h2 hel) (cwS 3 hts (tb_S tw_367 tw_368 tw_18 tw_369) rfl rfl rfl (by decide +kernel) ⟨(Nat.le_of_ble_eq_true rfl), (Nat.le_of_ble_eq_true rfl)⟩) (pz_pre (zz_ok _ _ _) hK hP hD hS hA hz) rfl rfl hl.1 rfl (lv_room (Nat.le_of_ble_eq_true rfl)) d_AR_copyOf0_6 ⟨(Nat.le_of_ble_eq_true rfl), (by show 0 + N ≤ N; omega)⟩) hP hD hS hA (fun r9 L2 f1 H locs hw hP hD hS => ?_)
  exact pz_aret hx hb hr (Or.inr ⟨_, rfl⟩) hlocks hK hP hD hS (Nat.le_of_ble_eq_true rfl) (by show 0 + N ≤ N; omega) hw d_AR_copyOf0_9
