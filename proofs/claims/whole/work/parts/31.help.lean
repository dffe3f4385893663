/-! THE LAW'S HELPERS: a call, and what it throws caught -/
theorem pz_metW {l : Launch} {cc : ByteArray} {L : List Nat} {f : Nat → va_E} {sz mc ms : Nat} {av : List Value} {G : gG} {y : MethodName} {ws ws' : List Cond} {rm : Room} {Qc : Array Value → State → Outcome → State → Prop} {free : Addr → Prop} {maxL : Nat} {ret : Option FieldType} {hh : List (Nat × Nat × Nat × Nat)} (hy : plainName y.cls = true) (hw : ws = Cond.codeWith y cc maxL ret hh :: ws') (hlen : (lg_sl av).length ≤ maxL)
    (body : ∀ (p : Program) (e : Env) (s : State) (m : MethodId) (below : List Frame) (meth : Method) (c : Code) (ls : Array Slot), p.tables.exec = Jvm.exec → c.code = cc → meth.sig.returnType = ret → c.maxLocals = maxL → (∀ w ∈ ws, w.before av.toArray s = true) → s.vm.findClass y.cls = some m.cls → meth.locks = false → c.exceptionTable.toList = tableOf hh → s.heap.size = sz → va_K (gD G) cls9 (gT G) s → va_P (gD G) cls9 ([] ++ va_pl L f) s.heap → va_D (mA L f sz) ([] ++ va_pl L f) → va_S (mA L f sz) s.heap s.heap [] → (∀ q, s.heap.size ≤ q → mA L f sz q) → gZ G (mA L f sz) s s.heap → lv_has ls maxL (lv_args 0 av) →
      W p l e rm s m av.toArray below meth c s.heap [] 0 0 (MQ below Qc av.toArray s mc ms free) (F0 m 0 ls [])) : Met l y ws rm (mP G L f sz av) Qc mc ms free := by
  refine va_MetW (cc := cc) (maxL := maxL) (ret := ret) (hh := hh) hy hw ?_
  intro p e s m args below meth c s₁ B hml hv
  obtain ⟨rfl, hsz, hP, hK, hD0, hz⟩ := hv
  rw [lg_entry_eq]
  exact body p e s m below meth c _ B.exec B.bytes B.returns hml (atoms_spec (ws := ws) B.pre) (findClass_of_methodNamed B.named) B.notSynchronized (vx_table (x := y) B (atoms_spec (ws := ws) B.pre _ (by rw [hw]; exact List.mem_cons_self))) hsz hK hP hD0.self va_S.rf (fun q h => Or.inr (by rw [← hsz]; exact h)) hz (lv_entry av hlen)
theorem xd_out {A : Nat → Prop} {out : Nat} {e : va_E} {L : List Nat} {f : Nat → va_E} (h : va_D A ([(out, e)] ++ va_pl L f)) : out ∉ L := fun hm => by
  obtain ⟨k, hk⟩ := va_pl_get (X := [(out, e)]) (f := f) hm
  have h0 := h.1 0 k (out, e) _ rfl hk rfl
  subst h0
  have h1 : (va_pl L f).length + 1 = ([(out, e)] ++ va_pl L f).length := rfl
  obtain ⟨j, hj, hj2⟩ := List.getElem_of_mem hm
  have h2 : ([(out, e)] ++ va_pl L f)[j + 1]? = some (out, f out) := by
    show (va_pl L f)[j]? = _
    rw [va_pl, List.getElem?_map, List.getElem?_eq_getElem hj, hj2]
    rfl
  exact absurd (h.1 0 (j + 1) (out, e) _ rfl h2 rfl) (Nat.succ_ne_zero j).symm
theorem xd_pl {out : Nat} {e : va_E} {L : List Nat} {f : Nat → va_E} (h : out ∉ L) : [] ++ va_pl (out :: L) (va_up f out e) = [(out, e)] ++ va_pl L f := by
  show (out, va_up f out e out) :: va_pl L (va_up f out e) = (out, e) :: va_pl L f
  rw [va_up_self]
  congr 1
  exact List.map_congr_left (fun z hz => by rw [va_up_ne _ _ (Ne.symm (pz_nef h hz))])
theorem rx_congr {G : gG} {L : List Nat} {f f1 : Nat → va_E} {pm al ad el ed fr op to sa fo : Nat} {xs ys : List Nat} {S : CS} (hk : ∀ z, z ∈ L → f1 z = f z) (h : RX G L f pm al ad el ed fr op to sa fo xs ys S) : RX G L f1 pm al ad el ed fr op to sa fo xs ys S := by
  obtain ⟨a1, a2, a3, a4, a5, a6, a7, a8, a9, b1, b2, b3, b4, b5, b6, b7, b8, b9⟩ := h
  exact ⟨a1, (hk _ a1).trans a2, lr_keep2 a3 (fun _ h => h) (hk _ (lr_tg a3).1) (fun _ h _ => hk _ h), lr_keep2 a4 (fun _ h => h) (hk _ (lr_tg a4).1) (fun _ h _ => hk _ h), a5, a6, xr_keep a7 (fun _ h => h) (fun z hz _ _ => hk z hz), yr_keep a8 (fun _ h => h) (fun z hz _ => hk z hz), a9, (hk _ a9).trans b1, b2, (hk _ b2).trans b3, b4, (hk _ b4).trans b5, b6, (hk _ b6).trans b7, b8, (hk _ b8).trans b9⟩
theorem xd_at (g : Nat → Int64) (v : Int64) : vp_updL g (0 : Int32).toNatClampNeg v 0 = v := if_pos rfl
set_option maxHeartbeats 4000000 in
set_option maxRecDepth 100000 in
/-- law: frame, the sizes right -/
theorem c_LW_frame (l : Launch) (G : gG) (L : List Nat) (f : Nat → va_E) (sz : Nat) (pm al ad el ed fr op to sa fo : Nat) (xs ys : List Nat) (its : List It) (F9 : Fr) (pgs : List (Fr × Pg)) (F : Fr) (P : Op) (T : Tt) (h t g : Int32) (hR : RX G L f pm al ad el ed fr op to sa fo xs ys (its, F9, pgs, F, P, T)) (h1 : k_isZ h) (h2 : k_isS t) (h3 : k_isZ g) : mI l y_LW_frame w_LW_frame ({ frames := 3, cells := 1, slots := 3, locals := 66 }) G L f sz [.ref pm, .int h, .int t, .int g] 1 3 (fun r u => r = 0 ∧ ∃ fr1, RX G u.1 u.2 pm al ad el ed fr1 op to sa fo xs ys (its, (h, t, g), pgs, F, P, T)) := by
  refine pz_metW (cc := method_3_code) (maxL := 5) (ret := (some .int)) (hh := [(0, 7, 10, 13)]) (by decide) rfl (Nat.le_of_ble_eq_true rfl) ?_
  intro p e s m below meth c ls hx hb hr hml hts hown hlocks htab hsz hK hP hD hS hA hz hl
  have htb : ∀ w ∈ TB, w.before _ s = true := fun w h => hts w (List.mem_cons_of_mem _ h)
  have hl : lv_has ls 5 [(0, .ref pm), (1, .int h), (2, .int t), (3, .int g)] := hl
  obtain ⟨hp, hfp, -⟩ := id hR
  refine lv_aload_n hx hb d_LW_frame_0 rfl (lv_at hl 0 rfl) ?_
  refine lv_iload_n hx hb d_LW_frame_1 rfl (lv_at hl 1 rfl) ?_
  refine lv_iload_n hx hb d_LW_frame_2 rfl (lv_at hl 2 rfl) ?_
  refine lv_iload_n hx hb d_LW_frame_3 rfl (lv_at hl 3 rfl) ?_
  refine pz_cv (va_runV (As := [.int h, .int t, .int g]) (rest := []) ⟨hx, hb, hml, hown, hts⟩ (c_PM_frame l G L f _ pm al ad el ed fr op to sa fo xs ys its F9 pgs F P T h t g hR h1 h2 h3) (cwV 3 hts (tb_V tw_189 tw_190 tw_191 tw_1 tw_192) rfl rfl rfl (by decide +kernel) ⟨(Nat.le_of_ble_eq_true rfl), (Nat.le_of_ble_eq_true rfl)⟩) (pz_preV (zz_ok _ _ _) hK hP hD hS hA hz (ci := 4) rfl rfl hp hfp) rfl rfl hl.1 rfl (lv_room (Nat.le_of_ble_eq_true rfl)) d_LW_frame_4 ⟨(Nat.le_of_ble_eq_true rfl), (Nat.le_of_ble_eq_true rfl)⟩) hP hD hS hA (fun L9 f9 H locs hw hP hD hS => ?_)
  obtain ⟨fr1, hR9⟩ := hw
  refine lv_goto (tgt := 14) hx hb d_LW_frame_7 (by decide) ?_
  refine lv_iconst (v := 0) hx hb d_LW_frame_14 (by decide) ?_
  exact pz_iret hx hb hr rfl hlocks hK hP hD hS (Nat.le_of_ble_eq_true rfl) (Nat.le_of_ble_eq_true rfl) ⟨rfl, fr1, hR9⟩ d_LW_frame_15
set_option maxHeartbeats 4000000 in
set_option maxRecDepth 100000 in
/-- law: frame throws -/
theorem x_LW_frame (l : Launch) (hl9 : l.stackTraces = false) (G : gG) (L : List Nat) (f : Nat → va_E) (sz : Nat) (pm al ad el ed fr op to sa fo : Nat) (xs ys : List Nat) (its : List It) (F9 : Fr) (pgs : List (Fr × Pg)) (F : Fr) (P : Op) (T : Tt) (h t g : Int32) (hR : RX G L f pm al ad el ed fr op to sa fo xs ys (its, F9, pgs, F, P, T)) (hno9 : ¬ (k_isZ h ∧ k_isS t ∧ k_isZ g)) : mI l y_LW_frame w_LW_frame ({ frames := 7, cells := 1, slots := 6, locals := 105 }) G L f sz [.ref pm, .int h, .int t, .int g] 1 6 (fun r u => r = 1 ∧ u = (L, f)) := by
  refine pz_metW (cc := method_3_code) (maxL := 5) (ret := (some .int)) (hh := [(0, 7, 10, 13)]) (by decide) rfl (Nat.le_of_ble_eq_true rfl) ?_
  intro p e s m below meth c ls hx hb hr hml hts hown hlocks htab hsz hK hP hD hS hA hz hl
  have htb : ∀ w ∈ TB, w.before _ s = true := fun w h => hts w (List.mem_cons_of_mem _ h)
  have hl : lv_has ls 5 [(0, .ref pm), (1, .int h), (2, .int t), (3, .int g)] := hl
  obtain ⟨hp, hfp, -⟩ := id hR
  refine lv_aload_n hx hb d_LW_frame_0 rfl (lv_at hl 0 rfl) ?_
  refine lv_iload_n hx hb d_LW_frame_1 rfl (lv_at hl 1 rfl) ?_
  refine lv_iload_n hx hb d_LW_frame_2 rfl (lv_at hl 2 rfl) ?_
  refine lv_iload_n hx hb d_LW_frame_3 rfl (lv_at hl 3 rfl) ?_
  refine pz_cx (aa := #[]) (vx_runV (As := [.int h, .int t, .int g]) (rest := []) ⟨hx, hb, hml, hown, hts⟩ (x_PM_frame l hl9 G L f _ pm h t g hno9) (cwV 3 hts (tb_V tw_189 tw_190 tw_191 tw_1 tw_192) rfl rfl rfl (by decide +kernel) ⟨(Nat.le_of_ble_eq_true rfl), (Nat.le_of_ble_eq_true rfl)⟩) (pz_preV (zz_ok _ _ _) hK hP hD hS hA hz (ci := 4) rfl rfl hp hfp) rfl rfl hl.1 rfl (lv_room (Nat.le_of_ble_eq_true rfl)) d_LW_frame_4 ⟨(Nat.le_of_ble_eq_true rfl), (Nat.le_of_ble_eq_true rfl)⟩) hP hD hS hA (fun ce q9 H locs hP hD hS h1 h2 h3 => ?_)
  refine vx_catch (own := "PageMakerLaw") (name := "java/lang/IllegalArgumentException") (E := "java/lang/IllegalArgumentException") hown [] _ _ htab (fun z h9 => by cases h9) (by decide) (by decide) (htb _ tw_188) (nb_use hz.1 _ tn_203) h1 h2 h3 ?_
  refine W.eq (g2 := F0 m 10 ls [.ref q9]) rfl ?_
  refine lv_astore (lv' := [(4, .ref q9), (0, .ref pm), (1, .int h), (2, .int t), (3, .int g)]) hx hb d_LW_frame_10 hl (by decide) rfl (fun ls hl => ?_)
  refine lv_iconst (v := 1) hx hb d_LW_frame_12 (by decide) ?_
  exact pz_iret hx hb hr rfl hlocks hK hP hD hS (Nat.le_of_ble_eq_true rfl) (Nat.le_of_ble_eq_true rfl) ⟨rfl, rfl⟩ d_LW_frame_13
set_option maxHeartbeats 4000000 in
set_option maxRecDepth 100000 in
/-- law: box, the numbers right -/
theorem c_LW_box (l : Launch) (G : gG) (L : List Nat) (f : Nat → va_E) (sz : Nat) (pm al ad el ed fr op to sa fo : Nat) (xs ys : List Nat) (its : List It) (F9 : Fr) (pgs : List (Fr × Pg)) (F : Fr) (P : Op) (T : Tt) (out : Nat) (g : Nat → Int64) (tag h d : Int32) (hR : RX G L f pm al ad el ed fr op to sa fo xs ys (its, F9, pgs, F, P, T)) (hout : f out = .inl (cJ G, 1, .inr (.inl g))) (hv0 : 0 ≤ tag) (hv1 : k_isS h) (hv2 : k_isS d) (hn5 : its.length < 512) (hpg : pgs.length ≤ 512) (hok9 : c_ok 4004001 (its ++ [.inl (h, d)], F9, pgs, F, P, T) its.length) : mI l y_LW_box w_LW_box ({ frames := 11, cells := 1 + (1 + 7 * ((c_run 4004001 (its ++ [.inl (h, d)], F9, pgs, F, P, T) its.length).1.2.2.1.length - pgs.length)), slots := 2 + (900 + 933 * ((c_run 4004001 (its ++ [.inl (h, d)], F9, pgs, F, P, T) its.length).1.2.2.1.length - pgs.length)), locals := 260 }) G (out :: L) f sz [.ref pm, .int tag, .int h, .int d, .ref out] (1 + (1 + 7 * ((c_run 4004001 (its ++ [.inl (h, d)], F9, pgs, F, P, T) its.length).1.2.2.1.length - pgs.length))) (2 + (900 + 933 * ((c_run 4004001 (its ++ [.inl (h, d)], F9, pgs, F, P, T) its.length).1.2.2.1.length - pgs.length))) (fun r u => r = 0 ∧ ∃ L1 g1, u.1 = out :: L1 ∧ u.2 out = .inl (cJ G, 1, .inr (.inl g1)) ∧ g1 0 = (nI (c_run 4004001 (its ++ [.inl (h, d)], F9, pgs, F, P, T) its.length).1.2.2.1.length).toInt64 ∧ ∃ ad1 ed1 op1 to1 sa1 fo1 xs1 ys1, RX G L1 u.2 pm al ad1 el ed1 fr op1 to1 sa1 fo1 xs1 ys1 (c_run 4004001 (its ++ [.inl (h, d)], F9, pgs, F, P, T) its.length).1) := by
  refine pz_metW (cc := method_4_code) (maxL := 6) (ret := (some .int)) (hh := [(0, 12, 15, 13), (0, 12, 19, 19)]) (by decide) rfl (Nat.le_of_ble_eq_true rfl) ?_
  intro p e s m below meth c ls hx hb hr hml hts hown hlocks htab hsz hK hP hD hS hA hz hl
  have htb : ∀ w ∈ TB, w.before _ s = true := fun w h => hts w (List.mem_cons_of_mem _ h)
  have hl : lv_has ls 6 [(0, .ref pm), (1, .int tag), (2, .int h), (3, .int d), (4, .ref out)] := hl
  obtain ⟨hp, hfp, -⟩ := id hR
  have hP : va_P (gD G) cls9 ([(out, (f out))] ++ va_pl L f) s.heap := hP
  have hD : va_D (mA (out :: L) f sz) ([(out, (f out))] ++ va_pl L f) := hD
  refine lv_aload hx hb d_LW_box_0 (lv_at hl 4 rfl) ?_
  refine lv_iconst (v := 0) hx hb d_LW_box_2 (by decide) ?_
  refine lv_aload_n hx hb d_LW_box_3 rfl (lv_at hl 0 rfl) ?_
  refine lv_iload_n hx hb d_LW_box_4 rfl (lv_at hl 1 rfl) ?_
  refine lv_iload_n hx hb d_LW_box_5 rfl (lv_at hl 2 rfl) ?_
  refine lv_iload_n hx hb d_LW_box_6 rfl (lv_at hl 3 rfl) ?_
  refine pz_ci (va_runV (As := [.int tag, .int h, .int d]) (rest := [.int 0, .ref out]) ⟨hx, hb, hml, hown, hts⟩ (c_PM_box l G L f _ pm al ad el ed fr op to sa fo xs ys its F9 pgs F P T tag h d hR hv0 hv1 hv2 hn5 hpg hok9) (cwV 3 hts (tb_V tw_273 tw_274 tw_275 tw_1 tw_276) rfl rfl rfl (by decide +kernel) ⟨(Nat.le_of_ble_eq_true rfl), (Nat.le_of_ble_eq_true rfl)⟩) (pz_preV (zz_ok _ _ _) hK hP hD hS hA hz (ci := 4) rfl rfl hp hfp) rfl rfl hl.1 rfl (lv_room (Nat.le_of_ble_eq_true rfl)) d_LW_box_7 ⟨(Nat.le_of_eq (Nat.zero_add _)), (Nat.le_of_eq (Nat.zero_add _))⟩) hP hD hS hA (fun r9 L9 f9 H locs hw hP hD hS => ?_)
  obtain ⟨er9, ad1, ed1, op1, to1, sa1, fo1, xs1, ys1, hR9⟩ := hw
  have er9 : r9 = nI (c_run 4004001 (its ++ [.inl (h, d)], F9, pgs, F, P, T) its.length).1.2.2.1.length := er9
  subst er9
  have hno : out ∉ L9 := xd_out hD
  obtain ⟨f8, ef8⟩ : ∃ y, y = va_up f9 out (f out) := ⟨_, rfl⟩
  have hP : va_P (gD G) cls9 ([] ++ va_pl (out :: L9) f8) H := by rw [ef8]; exact (xd_pl hno).symm ▸ hP
  have hD : va_D (mA (out :: L) f sz) ([] ++ va_pl (out :: L9) f8) := by rw [ef8]; exact (xd_pl hno).symm ▸ hD
  have ho9 : f8 out = .inl (cJ G, 1, .inr (.inl g)) := by rw [ef8]; exact (va_up_self _ _ _).trans hout
  have hk9 : ∀ z, z ∈ L9 → f8 z = f9 z := fun z hz9 => by rw [ef8]; exact va_up_ne _ _ (Ne.symm (pz_nef hno hz9))
  refine lv_i2l hx hb d_LW_box_10 rfl ?_
  have hin1 : vp_in 0 1 := vp_in_nI (n := 0) (N := 1) (by decide) (by decide)
  refine pz_last hx hb hK hP hD hS 1 (List.mem_cons_self) ho9 rfl hin1 d_LW_box_11 (fun f2 H locs ef2 hP hD hS => ?_)
  refine lv_goto (tgt := 23) hx hb d_LW_box_12 (by decide) ?_
  refine lv_iconst (v := 0) hx hb d_LW_box_23 (by decide) ?_
  have hk8 : ∀ z, z ∈ L9 → f2 z = f8 z := fun z hz9 => by rw [ef2]; exact va_up_ne _ _ (Ne.symm (pz_nef hno hz9))
  have hR8 : RX G L9 f2 pm al ad1 el ed1 fr op1 to1 sa1 fo1 xs1 ys1 (c_run 4004001 (its ++ [.inl (h, d)], F9, pgs, F, P, T) its.length).1 := rx_congr (fun z hz9 => (hk8 z hz9).trans (hk9 z hz9)) hR9
  exact pz_iret hx hb hr rfl hlocks hK hP hD hS (Nat.le_of_eq (Nat.zero_add _)) (Nat.le_of_eq (Nat.zero_add _)) ⟨rfl, L9, _, rfl, by rw [ef2]; exact va_up_self _ _ _, xd_at _ _, ad1, ed1, op1, to1, sa1, fo1, xs1, ys1, hR8⟩ d_LW_box_24
set_option maxHeartbeats 4000000 in
set_option maxRecDepth 100000 in
/-- law: box throws -/
theorem x_LW_box (l : Launch) (hl9 : l.stackTraces = false) (G : gG) (L : List Nat) (f : Nat → va_E) (sz : Nat) (pm al ad el ed fr op to sa fo : Nat) (xs ys : List Nat) (its : List It) (F9 : Fr) (pgs : List (Fr × Pg)) (F : Fr) (P : Op) (T : Tt) (out : Nat) (g : Nat → Int64) (tag h d : Int32) (hR : RX G L f pm al ad el ed fr op to sa fo xs ys (its, F9, pgs, F, P, T)) (hout : f out = .inl (cJ G, 1, .inr (.inl g))) (hno9 : ¬ (0 ≤ tag ∧ k_isS h ∧ k_isS d)) : mI l y_LW_box w_LW_box ({ frames := 7, cells := 1, slots := 6, locals := 105 }) G (out :: L) f sz [.ref pm, .int tag, .int h, .int d, .ref out] 1 6 (fun r u => r = 1 ∧ u = (out :: L, f)) := by
  refine pz_metW (cc := method_4_code) (maxL := 6) (ret := (some .int)) (hh := [(0, 12, 15, 13), (0, 12, 19, 19)]) (by decide) rfl (Nat.le_of_ble_eq_true rfl) ?_
  intro p e s m below meth c ls hx hb hr hml hts hown hlocks htab hsz hK hP hD hS hA hz hl
  have htb : ∀ w ∈ TB, w.before _ s = true := fun w h => hts w (List.mem_cons_of_mem _ h)
  have hl : lv_has ls 6 [(0, .ref pm), (1, .int tag), (2, .int h), (3, .int d), (4, .ref out)] := hl
  obtain ⟨hp, hfp, -⟩ := id hR
  have hP : va_P (gD G) cls9 ([(out, (f out))] ++ va_pl L f) s.heap := hP
  have hD : va_D (mA (out :: L) f sz) ([(out, (f out))] ++ va_pl L f) := hD
  refine lv_aload hx hb d_LW_box_0 (lv_at hl 4 rfl) ?_
  refine lv_iconst (v := 0) hx hb d_LW_box_2 (by decide) ?_
  refine lv_aload_n hx hb d_LW_box_3 rfl (lv_at hl 0 rfl) ?_
  refine lv_iload_n hx hb d_LW_box_4 rfl (lv_at hl 1 rfl) ?_
  refine lv_iload_n hx hb d_LW_box_5 rfl (lv_at hl 2 rfl) ?_
  refine lv_iload_n hx hb d_LW_box_6 rfl (lv_at hl 3 rfl) ?_
  refine pz_cx (aa := #[]) (vx_runV (As := [.int tag, .int h, .int d]) (rest := [.int 0, .ref out]) ⟨hx, hb, hml, hown, hts⟩ (x_PM_box l hl9 G L f _ pm tag h d hno9) (cwV 3 hts (tb_V tw_273 tw_274 tw_275 tw_1 tw_276) rfl rfl rfl (by decide +kernel) ⟨(Nat.le_of_ble_eq_true rfl), (Nat.le_of_ble_eq_true rfl)⟩) (pz_preV (zz_ok _ _ _) hK hP hD hS hA hz (ci := 4) rfl rfl hp hfp) rfl rfl hl.1 rfl (lv_room (Nat.le_of_ble_eq_true rfl)) d_LW_box_7 ⟨(Nat.le_of_ble_eq_true rfl), (Nat.le_of_ble_eq_true rfl)⟩) hP hD hS hA (fun ce q9 H locs hP hD hS h1 h2 h3 => ?_)
  refine vx_catch (own := "PageMakerLaw") (name := "java/lang/IllegalArgumentException") (E := "java/lang/IllegalArgumentException") hown [] _ _ htab (fun z h9 => by cases h9) (by decide) (by decide) (htb _ tw_188) (nb_use hz.1 _ tn_203) h1 h2 h3 ?_
  refine W.eq (g2 := F0 m 15 ls [.ref q9]) rfl ?_
  refine lv_astore (lv' := [(5, .ref q9), (0, .ref pm), (1, .int tag), (2, .int h), (3, .int d), (4, .ref out)]) hx hb d_LW_box_15 hl (by decide) rfl (fun ls hl => ?_)
  refine lv_iconst (v := 1) hx hb d_LW_box_17 (by decide) ?_
  have hP : va_P (gD G) cls9 ([] ++ va_pl (out :: L) f) H := hP
  have hD : va_D (mA (out :: L) f sz) ([] ++ va_pl (out :: L) f) := hD
  exact pz_iret hx hb hr rfl hlocks hK hP hD hS (Nat.le_of_ble_eq_true rfl) (Nat.le_of_ble_eq_true rfl) ⟨rfl, rfl⟩ d_LW_box_18
set_option maxHeartbeats 4000000 in
set_option maxRecDepth 100000 in
/-- law: glue, the numbers right -/
theorem c_LW_glue (l : Launch) (G : gG) (L : List Nat) (f : Nat → va_E) (sz : Nat) (pm al ad el ed fr op to sa fo : Nat) (xs ys : List Nat) (its : List It) (F9 : Fr) (pgs : List (Fr × Pg)) (F : Fr) (P : Op) (T : Tt) (out : Nat) (g : Nat → Int64) (wd st od sh : Int32) (hR : RX G L f pm al ad el ed fr op to sa fo xs ys (its, F9, pgs, F, P, T)) (hout : f out = .inl (cJ G, 1, .inr (.inl g))) (hv0 : k_isS wd) (hv1 : k_isZ st) (hv2 : k_isZ sh) (hv3 : 0 ≤ od) (hv4 : od < 4) (hn5 : its.length < 512) (hpg : pgs.length ≤ 512) (hok9 : c_ok 4004001 (its ++ [.inr (.inl (wd, st, od, sh))], F9, pgs, F, P, T) its.length) : mI l y_LW_glue w_LW_glue ({ frames := 11, cells := 1 + (1 + 7 * ((c_run 4004001 (its ++ [.inr (.inl (wd, st, od, sh))], F9, pgs, F, P, T) its.length).1.2.2.1.length - pgs.length)), slots := 4 + (900 + 933 * ((c_run 4004001 (its ++ [.inr (.inl (wd, st, od, sh))], F9, pgs, F, P, T) its.length).1.2.2.1.length - pgs.length)), locals := 261 }) G (out :: L) f sz [.ref pm, .int wd, .int st, .int od, .int sh, .ref out] (1 + (1 + 7 * ((c_run 4004001 (its ++ [.inr (.inl (wd, st, od, sh))], F9, pgs, F, P, T) its.length).1.2.2.1.length - pgs.length))) (4 + (900 + 933 * ((c_run 4004001 (its ++ [.inr (.inl (wd, st, od, sh))], F9, pgs, F, P, T) its.length).1.2.2.1.length - pgs.length))) (fun r u => r = 0 ∧ ∃ L1 g1, u.1 = out :: L1 ∧ u.2 out = .inl (cJ G, 1, .inr (.inl g1)) ∧ g1 0 = (nI (c_run 4004001 (its ++ [.inr (.inl (wd, st, od, sh))], F9, pgs, F, P, T) its.length).1.2.2.1.length).toInt64 ∧ ∃ ad1 ed1 op1 to1 sa1 fo1 xs1 ys1, RX G L1 u.2 pm al ad1 el ed1 fr op1 to1 sa1 fo1 xs1 ys1 (c_run 4004001 (its ++ [.inr (.inl (wd, st, od, sh))], F9, pgs, F, P, T) its.length).1) := by
  refine pz_metW (cc := method_5_code) (maxL := 7) (ret := (some .int)) (hh := [(0, 14, 17, 13), (0, 14, 21, 19)]) (by decide) rfl (Nat.le_of_ble_eq_true rfl) ?_
  intro p e s m below meth c ls hx hb hr hml hts hown hlocks htab hsz hK hP hD hS hA hz hl
  have htb : ∀ w ∈ TB, w.before _ s = true := fun w h => hts w (List.mem_cons_of_mem _ h)
  have hl : lv_has ls 7 [(0, .ref pm), (1, .int wd), (2, .int st), (3, .int od), (4, .int sh), (5, .ref out)] := hl
  obtain ⟨hp, hfp, -⟩ := id hR
  have hP : va_P (gD G) cls9 ([(out, (f out))] ++ va_pl L f) s.heap := hP
  have hD : va_D (mA (out :: L) f sz) ([(out, (f out))] ++ va_pl L f) := hD
  refine lv_aload hx hb d_LW_glue_0 (lv_at hl 5 rfl) ?_
  refine lv_iconst (v := 0) hx hb d_LW_glue_2 (by decide) ?_
  refine lv_aload_n hx hb d_LW_glue_3 rfl (lv_at hl 0 rfl) ?_
  refine lv_iload_n hx hb d_LW_glue_4 rfl (lv_at hl 1 rfl) ?_
  refine lv_iload_n hx hb d_LW_glue_5 rfl (lv_at hl 2 rfl) ?_
  refine lv_iload_n hx hb d_LW_glue_6 rfl (lv_at hl 3 rfl) ?_
  refine lv_iload hx hb d_LW_glue_7 (lv_at hl 4 rfl) ?_
  refine pz_ci (va_runV (As := [.int wd, .int st, .int od, .int sh]) (rest := [.int 0, .ref out]) ⟨hx, hb, hml, hown, hts⟩ (c_PM_glue l G L f _ pm al ad el ed fr op to sa fo xs ys its F9 pgs F P T wd st od sh hR hv0 hv1 hv2 hv3 hv4 hn5 hpg hok9) (cwV 4 hts (tb_V tw_543 tw_544 tw_545 tw_1 tw_546) rfl rfl rfl (by decide +kernel) ⟨(Nat.le_of_ble_eq_true rfl), (Nat.le_of_ble_eq_true rfl)⟩) (pz_preV (zz_ok _ _ _) hK hP hD hS hA hz (ci := 4) rfl rfl hp hfp) rfl rfl hl.1 rfl (lv_room (Nat.le_of_ble_eq_true rfl)) d_LW_glue_9 ⟨(Nat.le_of_eq (Nat.zero_add _)), (Nat.le_of_eq (Nat.zero_add _))⟩) hP hD hS hA (fun r9 L9 f9 H locs hw hP hD hS => ?_)
  obtain ⟨er9, ad1, ed1, op1, to1, sa1, fo1, xs1, ys1, hR9⟩ := hw
  have er9 : r9 = nI (c_run 4004001 (its ++ [.inr (.inl (wd, st, od, sh))], F9, pgs, F, P, T) its.length).1.2.2.1.length := er9
  subst er9
  have hno : out ∉ L9 := xd_out hD
  obtain ⟨f8, ef8⟩ : ∃ y, y = va_up f9 out (f out) := ⟨_, rfl⟩
  have hP : va_P (gD G) cls9 ([] ++ va_pl (out :: L9) f8) H := by rw [ef8]; exact (xd_pl hno).symm ▸ hP
  have hD : va_D (mA (out :: L) f sz) ([] ++ va_pl (out :: L9) f8) := by rw [ef8]; exact (xd_pl hno).symm ▸ hD
  have ho9 : f8 out = .inl (cJ G, 1, .inr (.inl g)) := by rw [ef8]; exact (va_up_self _ _ _).trans hout
  have hk9 : ∀ z, z ∈ L9 → f8 z = f9 z := fun z hz9 => by rw [ef8]; exact va_up_ne _ _ (Ne.symm (pz_nef hno hz9))
  refine lv_i2l hx hb d_LW_glue_12 rfl ?_
  have hin1 : vp_in 0 1 := vp_in_nI (n := 0) (N := 1) (by decide) (by decide)
  refine pz_last hx hb hK hP hD hS 1 (List.mem_cons_self) ho9 rfl hin1 d_LW_glue_13 (fun f2 H locs ef2 hP hD hS => ?_)
  refine lv_goto (tgt := 25) hx hb d_LW_glue_14 (by decide) ?_
  refine lv_iconst (v := 0) hx hb d_LW_glue_25 (by decide) ?_
  have hk8 : ∀ z, z ∈ L9 → f2 z = f8 z := fun z hz9 => by rw [ef2]; exact va_up_ne _ _ (Ne.symm (pz_nef hno hz9))
  have hR8 : RX G L9 f2 pm al ad1 el ed1 fr op1 to1 sa1 fo1 xs1 ys1 (c_run 4004001 (its ++ [.inr (.inl (wd, st, od, sh))], F9, pgs, F, P, T) its.length).1 := rx_congr (fun z hz9 => (hk8 z hz9).trans (hk9 z hz9)) hR9
  exact pz_iret hx hb hr rfl hlocks hK hP hD hS (Nat.le_of_eq (Nat.zero_add _)) (Nat.le_of_eq (Nat.zero_add _)) ⟨rfl, L9, _, rfl, by rw [ef2]; exact va_up_self _ _ _, xd_at _ _, ad1, ed1, op1, to1, sa1, fo1, xs1, ys1, hR8⟩ d_LW_glue_26
set_option maxHeartbeats 4000000 in
set_option maxRecDepth 100000 in
/-- law: glue throws -/
theorem x_LW_glue (l : Launch) (hl9 : l.stackTraces = false) (G : gG) (L : List Nat) (f : Nat → va_E) (sz : Nat) (pm al ad el ed fr op to sa fo : Nat) (xs ys : List Nat) (its : List It) (F9 : Fr) (pgs : List (Fr × Pg)) (F : Fr) (P : Op) (T : Tt) (out : Nat) (g : Nat → Int64) (wd st od sh : Int32) (hR : RX G L f pm al ad el ed fr op to sa fo xs ys (its, F9, pgs, F, P, T)) (hout : f out = .inl (cJ G, 1, .inr (.inl g))) (hno9 : ¬ (k_isS wd ∧ k_isZ st ∧ k_isZ sh ∧ 0 ≤ od ∧ od < 4)) : mI l y_LW_glue w_LW_glue ({ frames := 7, cells := 1, slots := 6, locals := 106 }) G (out :: L) f sz [.ref pm, .int wd, .int st, .int od, .int sh, .ref out] 1 6 (fun r u => r = 1 ∧ u = (out :: L, f)) := by
  refine pz_metW (cc := method_5_code) (maxL := 7) (ret := (some .int)) (hh := [(0, 14, 17, 13), (0, 14, 21, 19)]) (by decide) rfl (Nat.le_of_ble_eq_true rfl) ?_
  intro p e s m below meth c ls hx hb hr hml hts hown hlocks htab hsz hK hP hD hS hA hz hl
  have htb : ∀ w ∈ TB, w.before _ s = true := fun w h => hts w (List.mem_cons_of_mem _ h)
  have hl : lv_has ls 7 [(0, .ref pm), (1, .int wd), (2, .int st), (3, .int od), (4, .int sh), (5, .ref out)] := hl
  obtain ⟨hp, hfp, -⟩ := id hR
  have hP : va_P (gD G) cls9 ([(out, (f out))] ++ va_pl L f) s.heap := hP
  have hD : va_D (mA (out :: L) f sz) ([(out, (f out))] ++ va_pl L f) := hD
  refine lv_aload hx hb d_LW_glue_0 (lv_at hl 5 rfl) ?_
  refine lv_iconst (v := 0) hx hb d_LW_glue_2 (by decide) ?_
  refine lv_aload_n hx hb d_LW_glue_3 rfl (lv_at hl 0 rfl) ?_
  refine lv_iload_n hx hb d_LW_glue_4 rfl (lv_at hl 1 rfl) ?_
  refine lv_iload_n hx hb d_LW_glue_5 rfl (lv_at hl 2 rfl) ?_
  refine lv_iload_n hx hb d_LW_glue_6 rfl (lv_at hl 3 rfl) ?_
  refine lv_iload hx hb d_LW_glue_7 (lv_at hl 4 rfl) ?_
  refine pz_cx (aa := #[]) (vx_runV (As := [.int wd, .int st, .int od, .int sh]) (rest := [.int 0, .ref out]) ⟨hx, hb, hml, hown, hts⟩ (x_PM_glue l hl9 G L f _ pm wd st od sh hno9) (cwV 4 hts (tb_V tw_543 tw_544 tw_545 tw_1 tw_546) rfl rfl rfl (by decide +kernel) ⟨(Nat.le_of_ble_eq_true rfl), (Nat.le_of_ble_eq_true rfl)⟩) (pz_preV (zz_ok _ _ _) hK hP hD hS hA hz (ci := 4) rfl rfl hp hfp) rfl rfl hl.1 rfl (lv_room (Nat.le_of_ble_eq_true rfl)) d_LW_glue_9 ⟨(Nat.le_of_ble_eq_true rfl), (Nat.le_of_ble_eq_true rfl)⟩) hP hD hS hA (fun ce q9 H locs hP hD hS h1 h2 h3 => ?_)
  refine vx_catch (own := "PageMakerLaw") (name := "java/lang/IllegalArgumentException") (E := "java/lang/IllegalArgumentException") hown [] _ _ htab (fun z h9 => by cases h9) (by decide) (by decide) (htb _ tw_188) (nb_use hz.1 _ tn_203) h1 h2 h3 ?_
  refine W.eq (g2 := F0 m 17 ls [.ref q9]) rfl ?_
  refine lv_astore (lv' := [(6, .ref q9), (0, .ref pm), (1, .int wd), (2, .int st), (3, .int od), (4, .int sh), (5, .ref out)]) hx hb d_LW_glue_17 hl (by decide) rfl (fun ls hl => ?_)
  refine lv_iconst (v := 1) hx hb d_LW_glue_19 (by decide) ?_
  have hP : va_P (gD G) cls9 ([] ++ va_pl (out :: L) f) H := hP
  have hD : va_D (mA (out :: L) f sz) ([] ++ va_pl (out :: L) f) := hD
  exact pz_iret hx hb hr rfl hlocks hK hP hD hS (Nat.le_of_ble_eq_true rfl) (Nat.le_of_ble_eq_true rfl) ⟨rfl, rfl⟩ d_LW_glue_20
set_option maxHeartbeats 4000000 in
set_option maxRecDepth 100000 in
/-- law: kern, the numbers right -/
theorem c_LW_kern (l : Launch) (G : gG) (L : List Nat) (f : Nat → va_E) (sz : Nat) (pm al ad el ed fr op to sa fo : Nat) (xs ys : List Nat) (its : List It) (F9 : Fr) (pgs : List (Fr × Pg)) (F : Fr) (P : Op) (T : Tt) (out : Nat) (g : Nat → Int64) (wd : Int32) (hR : RX G L f pm al ad el ed fr op to sa fo xs ys (its, F9, pgs, F, P, T)) (hout : f out = .inl (cJ G, 1, .inr (.inl g))) (hv0 : k_isS wd) (hn5 : its.length < 512) (hpg : pgs.length ≤ 512) (hok9 : c_ok 4004001 (its ++ [.inr (.inr (.inl wd))], F9, pgs, F, P, T) its.length) : mI l y_LW_kern w_LW_kern ({ frames := 11, cells := 1 + (1 + 7 * ((c_run 4004001 (its ++ [.inr (.inr (.inl wd))], F9, pgs, F, P, T) its.length).1.2.2.1.length - pgs.length)), slots := 1 + (900 + 933 * ((c_run 4004001 (its ++ [.inr (.inr (.inl wd))], F9, pgs, F, P, T) its.length).1.2.2.1.length - pgs.length)), locals := 258 }) G (out :: L) f sz [.ref pm, .int wd, .ref out] (1 + (1 + 7 * ((c_run 4004001 (its ++ [.inr (.inr (.inl wd))], F9, pgs, F, P, T) its.length).1.2.2.1.length - pgs.length))) (1 + (900 + 933 * ((c_run 4004001 (its ++ [.inr (.inr (.inl wd))], F9, pgs, F, P, T) its.length).1.2.2.1.length - pgs.length))) (fun r u => r = 0 ∧ ∃ L1 g1, u.1 = out :: L1 ∧ u.2 out = .inl (cJ G, 1, .inr (.inl g1)) ∧ g1 0 = (nI (c_run 4004001 (its ++ [.inr (.inr (.inl wd))], F9, pgs, F, P, T) its.length).1.2.2.1.length).toInt64 ∧ ∃ ad1 ed1 op1 to1 sa1 fo1 xs1 ys1, RX G L1 u.2 pm al ad1 el ed1 fr op1 to1 sa1 fo1 xs1 ys1 (c_run 4004001 (its ++ [.inr (.inr (.inl wd))], F9, pgs, F, P, T) its.length).1) := by
  refine pz_metW (cc := method_6_code) (maxL := 4) (ret := (some .int)) (hh := [(0, 9, 12, 13), (0, 9, 15, 19)]) (by decide) rfl (Nat.le_of_ble_eq_true rfl) ?_
  intro p e s m below meth c ls hx hb hr hml hts hown hlocks htab hsz hK hP hD hS hA hz hl
  have htb : ∀ w ∈ TB, w.before _ s = true := fun w h => hts w (List.mem_cons_of_mem _ h)
  have hl : lv_has ls 4 [(0, .ref pm), (1, .int wd), (2, .ref out)] := hl
  obtain ⟨hp, hfp, -⟩ := id hR
  have hP : va_P (gD G) cls9 ([(out, (f out))] ++ va_pl L f) s.heap := hP
  have hD : va_D (mA (out :: L) f sz) ([(out, (f out))] ++ va_pl L f) := hD
  refine lv_aload_n hx hb d_LW_kern_0 rfl (lv_at hl 2 rfl) ?_
  refine lv_iconst (v := 0) hx hb d_LW_kern_1 (by decide) ?_
  refine lv_aload_n hx hb d_LW_kern_2 rfl (lv_at hl 0 rfl) ?_
  refine lv_iload_n hx hb d_LW_kern_3 rfl (lv_at hl 1 rfl) ?_
  refine pz_ci (va_runV (As := [.int wd]) (rest := [.int 0, .ref out]) ⟨hx, hb, hml, hown, hts⟩ (c_PM_kern l G L f _ pm al ad el ed fr op to sa fo xs ys its F9 pgs F P T wd hR hv0 hn5 hpg hok9) (cwV 1 hts (tb_V tw_570 tw_571 tw_572 tw_1 tw_573) rfl rfl rfl (by decide +kernel) ⟨(Nat.le_of_ble_eq_true rfl), (Nat.le_of_ble_eq_true rfl)⟩) (pz_preV (zz_ok _ _ _) hK hP hD hS hA hz (ci := 4) rfl rfl hp hfp) rfl rfl hl.1 rfl (lv_room (Nat.le_of_ble_eq_true rfl)) d_LW_kern_4 ⟨(Nat.le_of_eq (Nat.zero_add _)), (Nat.le_of_eq (Nat.zero_add _))⟩) hP hD hS hA (fun r9 L9 f9 H locs hw hP hD hS => ?_)
  obtain ⟨er9, ad1, ed1, op1, to1, sa1, fo1, xs1, ys1, hR9⟩ := hw
  have er9 : r9 = nI (c_run 4004001 (its ++ [.inr (.inr (.inl wd))], F9, pgs, F, P, T) its.length).1.2.2.1.length := er9
  subst er9
  have hno : out ∉ L9 := xd_out hD
  obtain ⟨f8, ef8⟩ : ∃ y, y = va_up f9 out (f out) := ⟨_, rfl⟩
  have hP : va_P (gD G) cls9 ([] ++ va_pl (out :: L9) f8) H := by rw [ef8]; exact (xd_pl hno).symm ▸ hP
  have hD : va_D (mA (out :: L) f sz) ([] ++ va_pl (out :: L9) f8) := by rw [ef8]; exact (xd_pl hno).symm ▸ hD
  have ho9 : f8 out = .inl (cJ G, 1, .inr (.inl g)) := by rw [ef8]; exact (va_up_self _ _ _).trans hout
  have hk9 : ∀ z, z ∈ L9 → f8 z = f9 z := fun z hz9 => by rw [ef8]; exact va_up_ne _ _ (Ne.symm (pz_nef hno hz9))
  refine lv_i2l hx hb d_LW_kern_7 rfl ?_
  have hin1 : vp_in 0 1 := vp_in_nI (n := 0) (N := 1) (by decide) (by decide)
  refine pz_last hx hb hK hP hD hS 1 (List.mem_cons_self) ho9 rfl hin1 d_LW_kern_8 (fun f2 H locs ef2 hP hD hS => ?_)
  refine lv_goto (tgt := 18) hx hb d_LW_kern_9 (by decide) ?_
  refine lv_iconst (v := 0) hx hb d_LW_kern_18 (by decide) ?_
  have hk8 : ∀ z, z ∈ L9 → f2 z = f8 z := fun z hz9 => by rw [ef2]; exact va_up_ne _ _ (Ne.symm (pz_nef hno hz9))
  have hR8 : RX G L9 f2 pm al ad1 el ed1 fr op1 to1 sa1 fo1 xs1 ys1 (c_run 4004001 (its ++ [.inr (.inr (.inl wd))], F9, pgs, F, P, T) its.length).1 := rx_congr (fun z hz9 => (hk8 z hz9).trans (hk9 z hz9)) hR9
  exact pz_iret hx hb hr rfl hlocks hK hP hD hS (Nat.le_of_eq (Nat.zero_add _)) (Nat.le_of_eq (Nat.zero_add _)) ⟨rfl, L9, _, rfl, by rw [ef2]; exact va_up_self _ _ _, xd_at _ _, ad1, ed1, op1, to1, sa1, fo1, xs1, ys1, hR8⟩ d_LW_kern_19
set_option maxHeartbeats 4000000 in
set_option maxRecDepth 100000 in
/-- law: kern throws -/
theorem x_LW_kern (l : Launch) (hl9 : l.stackTraces = false) (G : gG) (L : List Nat) (f : Nat → va_E) (sz : Nat) (pm al ad el ed fr op to sa fo : Nat) (xs ys : List Nat) (its : List It) (F9 : Fr) (pgs : List (Fr × Pg)) (F : Fr) (P : Op) (T : Tt) (out : Nat) (g : Nat → Int64) (wd : Int32) (hR : RX G L f pm al ad el ed fr op to sa fo xs ys (its, F9, pgs, F, P, T)) (hout : f out = .inl (cJ G, 1, .inr (.inl g))) (hno9 : ¬ (k_isS wd)) : mI l y_LW_kern w_LW_kern ({ frames := 7, cells := 1, slots := 6, locals := 103 }) G (out :: L) f sz [.ref pm, .int wd, .ref out] 1 6 (fun r u => r = 1 ∧ u = (out :: L, f)) := by
  refine pz_metW (cc := method_6_code) (maxL := 4) (ret := (some .int)) (hh := [(0, 9, 12, 13), (0, 9, 15, 19)]) (by decide) rfl (Nat.le_of_ble_eq_true rfl) ?_
  intro p e s m below meth c ls hx hb hr hml hts hown hlocks htab hsz hK hP hD hS hA hz hl
  have htb : ∀ w ∈ TB, w.before _ s = true := fun w h => hts w (List.mem_cons_of_mem _ h)
  have hl : lv_has ls 4 [(0, .ref pm), (1, .int wd), (2, .ref out)] := hl
  obtain ⟨hp, hfp, -⟩ := id hR
  have hP : va_P (gD G) cls9 ([(out, (f out))] ++ va_pl L f) s.heap := hP
  have hD : va_D (mA (out :: L) f sz) ([(out, (f out))] ++ va_pl L f) := hD
  refine lv_aload_n hx hb d_LW_kern_0 rfl (lv_at hl 2 rfl) ?_
  refine lv_iconst (v := 0) hx hb d_LW_kern_1 (by decide) ?_
  refine lv_aload_n hx hb d_LW_kern_2 rfl (lv_at hl 0 rfl) ?_
  refine lv_iload_n hx hb d_LW_kern_3 rfl (lv_at hl 1 rfl) ?_
  refine pz_cx (aa := #[]) (vx_runV (As := [.int wd]) (rest := [.int 0, .ref out]) ⟨hx, hb, hml, hown, hts⟩ (x_PM_kern l hl9 G L f _ pm wd hno9) (cwV 1 hts (tb_V tw_570 tw_571 tw_572 tw_1 tw_573) rfl rfl rfl (by decide +kernel) ⟨(Nat.le_of_ble_eq_true rfl), (Nat.le_of_ble_eq_true rfl)⟩) (pz_preV (zz_ok _ _ _) hK hP hD hS hA hz (ci := 4) rfl rfl hp hfp) rfl rfl hl.1 rfl (lv_room (Nat.le_of_ble_eq_true rfl)) d_LW_kern_4 ⟨(Nat.le_of_ble_eq_true rfl), (Nat.le_of_ble_eq_true rfl)⟩) hP hD hS hA (fun ce q9 H locs hP hD hS h1 h2 h3 => ?_)
  refine vx_catch (own := "PageMakerLaw") (name := "java/lang/IllegalArgumentException") (E := "java/lang/IllegalArgumentException") hown [] _ _ htab (fun z h9 => by cases h9) (by decide) (by decide) (htb _ tw_188) (nb_use hz.1 _ tn_203) h1 h2 h3 ?_
  refine W.eq (g2 := F0 m 12 ls [.ref q9]) rfl ?_
  refine lv_astore_n (lv' := [(3, .ref q9), (0, .ref pm), (1, .int wd), (2, .ref out)]) hx hb d_LW_kern_12 rfl hl (by decide) rfl (fun ls hl => ?_)
  refine lv_iconst (v := 1) hx hb d_LW_kern_13 (by decide) ?_
  have hP : va_P (gD G) cls9 ([] ++ va_pl (out :: L) f) H := hP
  have hD : va_D (mA (out :: L) f sz) ([] ++ va_pl (out :: L) f) := hD
  exact pz_iret hx hb hr rfl hlocks hK hP hD hS (Nat.le_of_ble_eq_true rfl) (Nat.le_of_ble_eq_true rfl) ⟨rfl, rfl⟩ d_LW_kern_14
set_option maxHeartbeats 4000000 in
set_option maxRecDepth 100000 in
/-- law: penalty, the numbers right -/
theorem c_LW_penalty (l : Launch) (G : gG) (L : List Nat) (f : Nat → va_E) (sz : Nat) (pm al ad el ed fr op to sa fo : Nat) (xs ys : List Nat) (its : List It) (F9 : Fr) (pgs : List (Fr × Pg)) (F : Fr) (P : Op) (T : Tt) (out : Nat) (g : Nat → Int64) (pp : Int32) (hR : RX G L f pm al ad el ed fr op to sa fo xs ys (its, F9, pgs, F, P, T)) (hout : f out = .inl (cJ G, 1, .inr (.inl g))) (hv0 : (-100000) ≤ pp) (hv1 : pp ≤ 100000) (hn5 : its.length < 512) (hpg : pgs.length ≤ 512) (hok9 : c_ok 4004001 (its ++ [.inr (.inr (.inr pp))], F9, pgs, F, P, T) its.length) : mI l y_LW_penalty w_LW_penalty ({ frames := 11, cells := 1 + (1 + 7 * ((c_run 4004001 (its ++ [.inr (.inr (.inr pp))], F9, pgs, F, P, T) its.length).1.2.2.1.length - pgs.length)), slots := 1 + (900 + 933 * ((c_run 4004001 (its ++ [.inr (.inr (.inr pp))], F9, pgs, F, P, T) its.length).1.2.2.1.length - pgs.length)), locals := 258 }) G (out :: L) f sz [.ref pm, .int pp, .ref out] (1 + (1 + 7 * ((c_run 4004001 (its ++ [.inr (.inr (.inr pp))], F9, pgs, F, P, T) its.length).1.2.2.1.length - pgs.length))) (1 + (900 + 933 * ((c_run 4004001 (its ++ [.inr (.inr (.inr pp))], F9, pgs, F, P, T) its.length).1.2.2.1.length - pgs.length))) (fun r u => r = 0 ∧ ∃ L1 g1, u.1 = out :: L1 ∧ u.2 out = .inl (cJ G, 1, .inr (.inl g1)) ∧ g1 0 = (nI (c_run 4004001 (its ++ [.inr (.inr (.inr pp))], F9, pgs, F, P, T) its.length).1.2.2.1.length).toInt64 ∧ ∃ ad1 ed1 op1 to1 sa1 fo1 xs1 ys1, RX G L1 u.2 pm al ad1 el ed1 fr op1 to1 sa1 fo1 xs1 ys1 (c_run 4004001 (its ++ [.inr (.inr (.inr pp))], F9, pgs, F, P, T) its.length).1) := by
  refine pz_metW (cc := method_7_code) (maxL := 4) (ret := (some .int)) (hh := [(0, 9, 12, 13), (0, 9, 15, 19)]) (by decide) rfl (Nat.le_of_ble_eq_true rfl) ?_
  intro p e s m below meth c ls hx hb hr hml hts hown hlocks htab hsz hK hP hD hS hA hz hl
  have htb : ∀ w ∈ TB, w.before _ s = true := fun w h => hts w (List.mem_cons_of_mem _ h)
  have hl : lv_has ls 4 [(0, .ref pm), (1, .int pp), (2, .ref out)] := hl
  obtain ⟨hp, hfp, -⟩ := id hR
  have hP : va_P (gD G) cls9 ([(out, (f out))] ++ va_pl L f) s.heap := hP
  have hD : va_D (mA (out :: L) f sz) ([(out, (f out))] ++ va_pl L f) := hD
  refine lv_aload_n hx hb d_LW_penalty_0 rfl (lv_at hl 2 rfl) ?_
  refine lv_iconst (v := 0) hx hb d_LW_penalty_1 (by decide) ?_
  refine lv_aload_n hx hb d_LW_penalty_2 rfl (lv_at hl 0 rfl) ?_
  refine lv_iload_n hx hb d_LW_penalty_3 rfl (lv_at hl 1 rfl) ?_
  refine pz_ci (va_runV (As := [.int pp]) (rest := [.int 0, .ref out]) ⟨hx, hb, hml, hown, hts⟩ (c_PM_penalty l G L f _ pm al ad el ed fr op to sa fo xs ys its F9 pgs F P T pp hR hv0 hv1 hn5 hpg hok9) (cwV 1 hts (tb_V tw_587 tw_588 tw_589 tw_1 tw_590) rfl rfl rfl (by decide +kernel) ⟨(Nat.le_of_ble_eq_true rfl), (Nat.le_of_ble_eq_true rfl)⟩) (pz_preV (zz_ok _ _ _) hK hP hD hS hA hz (ci := 4) rfl rfl hp hfp) rfl rfl hl.1 rfl (lv_room (Nat.le_of_ble_eq_true rfl)) d_LW_penalty_4 ⟨(Nat.le_of_eq (Nat.zero_add _)), (Nat.le_of_eq (Nat.zero_add _))⟩) hP hD hS hA (fun r9 L9 f9 H locs hw hP hD hS => ?_)
  obtain ⟨er9, ad1, ed1, op1, to1, sa1, fo1, xs1, ys1, hR9⟩ := hw
  have er9 : r9 = nI (c_run 4004001 (its ++ [.inr (.inr (.inr pp))], F9, pgs, F, P, T) its.length).1.2.2.1.length := er9
  subst er9
  have hno : out ∉ L9 := xd_out hD
  obtain ⟨f8, ef8⟩ : ∃ y, y = va_up f9 out (f out) := ⟨_, rfl⟩
  have hP : va_P (gD G) cls9 ([] ++ va_pl (out :: L9) f8) H := by rw [ef8]; exact (xd_pl hno).symm ▸ hP
  have hD : va_D (mA (out :: L) f sz) ([] ++ va_pl (out :: L9) f8) := by rw [ef8]; exact (xd_pl hno).symm ▸ hD
  have ho9 : f8 out = .inl (cJ G, 1, .inr (.inl g)) := by rw [ef8]; exact (va_up_self _ _ _).trans hout
  have hk9 : ∀ z, z ∈ L9 → f8 z = f9 z := fun z hz9 => by rw [ef8]; exact va_up_ne _ _ (Ne.symm (pz_nef hno hz9))
  refine lv_i2l hx hb d_LW_penalty_7 rfl ?_
  have hin1 : vp_in 0 1 := vp_in_nI (n := 0) (N := 1) (by decide) (by decide)
  refine pz_last hx hb hK hP hD hS 1 (List.mem_cons_self) ho9 rfl hin1 d_LW_penalty_8 (fun f2 H locs ef2 hP hD hS => ?_)
  refine lv_goto (tgt := 18) hx hb d_LW_penalty_9 (by decide) ?_
  refine lv_iconst (v := 0) hx hb d_LW_penalty_18 (by decide) ?_
  have hk8 : ∀ z, z ∈ L9 → f2 z = f8 z := fun z hz9 => by rw [ef2]; exact va_up_ne _ _ (Ne.symm (pz_nef hno hz9))
  have hR8 : RX G L9 f2 pm al ad1 el ed1 fr op1 to1 sa1 fo1 xs1 ys1 (c_run 4004001 (its ++ [.inr (.inr (.inr pp))], F9, pgs, F, P, T) its.length).1 := rx_congr (fun z hz9 => (hk8 z hz9).trans (hk9 z hz9)) hR9
  exact pz_iret hx hb hr rfl hlocks hK hP hD hS (Nat.le_of_eq (Nat.zero_add _)) (Nat.le_of_eq (Nat.zero_add _)) ⟨rfl, L9, _, rfl, by rw [ef2]; exact va_up_self _ _ _, xd_at _ _, ad1, ed1, op1, to1, sa1, fo1, xs1, ys1, hR8⟩ d_LW_penalty_19
set_option maxHeartbeats 4000000 in
set_option maxRecDepth 100000 in
/-- law: penalty throws -/
theorem x_LW_penalty (l : Launch) (hl9 : l.stackTraces = false) (G : gG) (L : List Nat) (f : Nat → va_E) (sz : Nat) (pm al ad el ed fr op to sa fo : Nat) (xs ys : List Nat) (its : List It) (F9 : Fr) (pgs : List (Fr × Pg)) (F : Fr) (P : Op) (T : Tt) (out : Nat) (g : Nat → Int64) (pp : Int32) (hR : RX G L f pm al ad el ed fr op to sa fo xs ys (its, F9, pgs, F, P, T)) (hout : f out = .inl (cJ G, 1, .inr (.inl g))) (hno9 : ¬ ((-100000) ≤ pp ∧ pp ≤ 100000)) : mI l y_LW_penalty w_LW_penalty ({ frames := 7, cells := 1, slots := 6, locals := 103 }) G (out :: L) f sz [.ref pm, .int pp, .ref out] 1 6 (fun r u => r = 1 ∧ u = (out :: L, f)) := by
  refine pz_metW (cc := method_7_code) (maxL := 4) (ret := (some .int)) (hh := [(0, 9, 12, 13), (0, 9, 15, 19)]) (by decide) rfl (Nat.le_of_ble_eq_true rfl) ?_
  intro p e s m below meth c ls hx hb hr hml hts hown hlocks htab hsz hK hP hD hS hA hz hl
  have htb : ∀ w ∈ TB, w.before _ s = true := fun w h => hts w (List.mem_cons_of_mem _ h)
  have hl : lv_has ls 4 [(0, .ref pm), (1, .int pp), (2, .ref out)] := hl
  obtain ⟨hp, hfp, -⟩ := id hR
  have hP : va_P (gD G) cls9 ([(out, (f out))] ++ va_pl L f) s.heap := hP
  have hD : va_D (mA (out :: L) f sz) ([(out, (f out))] ++ va_pl L f) := hD
  refine lv_aload_n hx hb d_LW_penalty_0 rfl (lv_at hl 2 rfl) ?_
  refine lv_iconst (v := 0) hx hb d_LW_penalty_1 (by decide) ?_
  refine lv_aload_n hx hb d_LW_penalty_2 rfl (lv_at hl 0 rfl) ?_
  refine lv_iload_n hx hb d_LW_penalty_3 rfl (lv_at hl 1 rfl) ?_
  refine pz_cx (aa := #[]) (vx_runV (As := [.int pp]) (rest := [.int 0, .ref out]) ⟨hx, hb, hml, hown, hts⟩ (x_PM_penalty l hl9 G L f _ pm pp hno9) (cwV 1 hts (tb_V tw_587 tw_588 tw_589 tw_1 tw_590) rfl rfl rfl (by decide +kernel) ⟨(Nat.le_of_ble_eq_true rfl), (Nat.le_of_ble_eq_true rfl)⟩) (pz_preV (zz_ok _ _ _) hK hP hD hS hA hz (ci := 4) rfl rfl hp hfp) rfl rfl hl.1 rfl (lv_room (Nat.le_of_ble_eq_true rfl)) d_LW_penalty_4 ⟨(Nat.le_of_ble_eq_true rfl), (Nat.le_of_ble_eq_true rfl)⟩) hP hD hS hA (fun ce q9 H locs hP hD hS h1 h2 h3 => ?_)
  refine vx_catch (own := "PageMakerLaw") (name := "java/lang/IllegalArgumentException") (E := "java/lang/IllegalArgumentException") hown [] _ _ htab (fun z h9 => by cases h9) (by decide) (by decide) (htb _ tw_188) (nb_use hz.1 _ tn_203) h1 h2 h3 ?_
  refine W.eq (g2 := F0 m 12 ls [.ref q9]) rfl ?_
  refine lv_astore_n (lv' := [(3, .ref q9), (0, .ref pm), (1, .int pp), (2, .ref out)]) hx hb d_LW_penalty_12 rfl hl (by decide) rfl (fun ls hl => ?_)
  refine lv_iconst (v := 1) hx hb d_LW_penalty_13 (by decide) ?_
  have hP : va_P (gD G) cls9 ([] ++ va_pl (out :: L) f) H := hP
  have hD : va_D (mA (out :: L) f sz) ([] ++ va_pl (out :: L) f) := hD
  exact pz_iret hx hb hr rfl hlocks hK hP hD hS (Nat.le_of_ble_eq_true rfl) (Nat.le_of_ble_eq_true rfl) ⟨rfl, rfl⟩ d_LW_penalty_14
set_option maxHeartbeats 4000000 in
set_option maxRecDepth 100000 in
/-- law: page -/
theorem c_LW_page (l : Launch) (G : gG) (L : List Nat) (f : Nat → va_E) (sz : Nat) (pm al ad el ed fr op to sa fo : Nat) (xs ys : List Nat) (its : List It) (F9 : Fr) (pgs : List (Fr × Pg)) (F : Fr) (P : Op) (T : Tt) (out : Nat) (g : Nat → Int64) (k y n : Nat) (hR : RX G L f pm al ad el ed fr op to sa fo xs ys (its, F9, pgs, F, P, T)) (hout : f out = .inl (cJ G, 1, .inr (.inl g))) (hpg : pgs.length ≤ 512) (hy9 : ys[k]? = some y) (pg : Fr × Pg) (hp9 : pgs[k]? = some pg) (hn : n < 8) : mI l y_LW_page w_LW_page ({ frames := 5, cells := 0, slots := 0, locals := 108 }) G (out :: L) f sz [.ref pm, .int (nI k), .int (nI n), .ref out] 0 0 (fun r u => r = 0 ∧ ∃ L1 g1, u.1 = out :: L1 ∧ u.2 out = .inl (cJ G, 1, .inr (.inl g1)) ∧ g1 0 = (pg_v pg.2 n) ∧  RX G L1 u.2 pm al ad el ed fr op to sa fo xs ys (its, F9, pgs, F, P, T)) := by
  refine pz_metW (cc := method_8_code) (maxL := 5) (ret := (some .int)) (hh := [(0, 9, 12, 36)]) (by decide) rfl (Nat.le_of_ble_eq_true rfl) ?_
  intro p e s m below meth c ls hx hb hr hml hts hown hlocks htab hsz hK hP hD hS hA hz hl
  have htb : ∀ w ∈ TB, w.before _ s = true := fun w h => hts w (List.mem_cons_of_mem _ h)
  have hl : lv_has ls 5 [(0, .ref pm), (1, .int (nI k)), (2, .int (nI n)), (3, .ref out)] := hl
  obtain ⟨hp, hfp, -⟩ := id hR
  have hP : va_P (gD G) cls9 ([(out, (f out))] ++ va_pl L f) s.heap := hP
  have hD : va_D (mA (out :: L) f sz) ([(out, (f out))] ++ va_pl L f) := hD
  refine lv_aload_n hx hb d_LW_page_0 rfl (lv_at hl 3 rfl) ?_
  refine lv_iconst (v := 0) hx hb d_LW_page_1 (by decide) ?_
  refine lv_aload_n hx hb d_LW_page_2 rfl (lv_at hl 0 rfl) ?_
  refine lv_iload_n hx hb d_LW_page_3 rfl (lv_at hl 1 rfl) ?_
  refine lv_iload_n hx hb d_LW_page_4 rfl (lv_at hl 2 rfl) ?_
  refine vp_callSl (va_Run.run (va_runV (As := [.int (nI k), .int (nI n)]) (rest := [.int 0, .ref out]) ⟨hx, hb, hml, hown, hts⟩ (c_PM_page l G L f _ pm al ad el ed fr op to sa fo xs ys its F9 pgs F P T k y n hR hpg hy9 pg hp9 hn) (cwV 2 hts (tb_V tw_607 tw_608 tw_609 tw_1 tw_610) rfl rfl rfl (by decide +kernel) ⟨(Nat.le_of_ble_eq_true rfl), (Nat.le_of_ble_eq_true rfl)⟩) (pz_preV (zz_ok _ _ _) hK hP hD hS hA hz (ci := 4) rfl rfl hp hfp) rfl rfl hl.1 rfl (lv_room (Nat.le_of_ble_eq_true rfl)) d_LW_page_5 ⟨(Nat.le_of_ble_eq_true rfl), (Nat.le_of_ble_eq_true rfl)⟩)) (fun r1 hw => ?_)
  have hw : r1 = (pg_v pg.2 n) := hw
  subst r1
  have hno : out ∉ L := xd_out hD
  obtain ⟨f8, ef8⟩ : ∃ y, y = va_up f out (f out) := ⟨_, rfl⟩
  have hP : va_P (gD G) cls9 ([] ++ va_pl (out :: L) f8) s.heap := by rw [ef8]; exact (xd_pl hno).symm ▸ hP
  have hD : va_D (mA (out :: L) f sz) ([] ++ va_pl (out :: L) f8) := by rw [ef8]; exact (xd_pl hno).symm ▸ hD
  have ho9 : f8 out = .inl (cJ G, 1, .inr (.inl g)) := by rw [ef8]; exact (va_up_self _ _ _).trans hout
  have hk9 : ∀ z, z ∈ L → f8 z = f z := fun z hz9 => by rw [ef8]; exact va_up_ne _ _ (Ne.symm (pz_nef hno hz9))
  have hin2 : vp_in 0 1 := vp_in_nI (n := 0) (N := 1) (by decide) (by decide)
  refine pz_last hx hb hK hP hD hS 1 (List.mem_cons_self) ho9 rfl hin2 d_LW_page_8 (fun f3 H locs ef3 hP hD hS => ?_)
  refine lv_goto (tgt := 16) hx hb d_LW_page_9 (by decide) ?_
  refine lv_iconst (v := 0) hx hb d_LW_page_16 (by decide) ?_
  have hk8 : ∀ z, z ∈ L → f3 z = f8 z := fun z hz9 => by rw [ef3]; exact va_up_ne _ _ (Ne.symm (pz_nef hno hz9))
  have hR8 : RX G L f3 pm al ad el ed fr op to sa fo xs ys (its, F9, pgs, F, P, T) := rx_congr (fun z hz9 => (hk8 z hz9).trans (hk9 z hz9)) hR
  exact pz_iret hx hb hr rfl hlocks hK hP hD hS (Nat.le_of_ble_eq_true rfl) (Nat.le_of_ble_eq_true rfl) ⟨rfl, L, _, rfl, by rw [ef3]; exact va_up_self _ _ _, xd_at _ _, hR8⟩ d_LW_page_17
set_option maxHeartbeats 4000000 in
set_option maxRecDepth 100000 in
/-- law: page throws -/
theorem x_LW_page (l : Launch) (hl9 : l.stackTraces = false) (G : gG) (L : List Nat) (f : Nat → va_E) (sz : Nat) (pm al ad el ed fr op to sa fo : Nat) (xs ys : List Nat) (its : List It) (F9 : Fr) (pgs : List (Fr × Pg)) (F : Fr) (P : Op) (T : Tt) (out : Nat) (g : Nat → Int64) (k n : Int32) (hR : RX G L f pm al ad el ed fr op to sa fo xs ys (its, F9, pgs, F, P, T)) (hout : f out = .inl (cJ G, 1, .inr (.inl g))) (hpg : pgs.length ≤ 512) (hno9 : ¬ ((0 ≤ k ∧ k < nI pgs.length) ∧ 0 ≤ n ∧ n < 8)) : mI l y_LW_page w_LW_page ({ frames := 8, cells := 1, slots := 6, locals := 126 }) G (out :: L) f sz [.ref pm, .int k, .int n, .ref out] 1 6 (fun r u => r = 1 ∧ u = (out :: L, f)) := by
  refine pz_metW (cc := method_8_code) (maxL := 5) (ret := (some .int)) (hh := [(0, 9, 12, 36)]) (by decide) rfl (Nat.le_of_ble_eq_true rfl) ?_
  intro p e s m below meth c ls hx hb hr hml hts hown hlocks htab hsz hK hP hD hS hA hz hl
  have htb : ∀ w ∈ TB, w.before _ s = true := fun w h => hts w (List.mem_cons_of_mem _ h)
  have hl : lv_has ls 5 [(0, .ref pm), (1, .int k), (2, .int n), (3, .ref out)] := hl
  obtain ⟨hp, hfp, -⟩ := id hR
  have hP : va_P (gD G) cls9 ([(out, (f out))] ++ va_pl L f) s.heap := hP
  have hD : va_D (mA (out :: L) f sz) ([(out, (f out))] ++ va_pl L f) := hD
  refine lv_aload_n hx hb d_LW_page_0 rfl (lv_at hl 3 rfl) ?_
  refine lv_iconst (v := 0) hx hb d_LW_page_1 (by decide) ?_
  refine lv_aload_n hx hb d_LW_page_2 rfl (lv_at hl 0 rfl) ?_
  refine lv_iload_n hx hb d_LW_page_3 rfl (lv_at hl 1 rfl) ?_
  refine lv_iload_n hx hb d_LW_page_4 rfl (lv_at hl 2 rfl) ?_
  refine pz_cx (aa := #[]) (vx_runV (As := [.int k, .int n]) (rest := [.int 0, .ref out]) ⟨hx, hb, hml, hown, hts⟩ (x_PM_page l hl9 G L f _ pm al ad el ed fr op to sa fo xs ys its F9 pgs F P T k n hR hpg hno9) (cwV 2 hts (tb_V tw_607 tw_608 tw_609 tw_1 tw_610) rfl rfl rfl (by decide +kernel) ⟨(Nat.le_of_ble_eq_true rfl), (Nat.le_of_ble_eq_true rfl)⟩) (pz_preV (zz_ok _ _ _) hK hP hD hS hA hz (ci := 4) rfl rfl hp hfp) rfl rfl hl.1 rfl (lv_room (Nat.le_of_ble_eq_true rfl)) d_LW_page_5 ⟨(Nat.le_of_ble_eq_true rfl), (Nat.le_of_ble_eq_true rfl)⟩) hP hD hS hA (fun ce q9 H locs hP hD hS h1 h2 h3 => ?_)
  refine vx_catch (own := "PageMakerLaw") (name := "java/lang/IndexOutOfBoundsException") (E := "java/lang/IndexOutOfBoundsException") hown [] _ _ htab (fun z h9 => by cases h9) (by decide) (by decide) (htb _ tw_606) (nb_use hz.1 _ tn_617) h1 h2 h3 ?_
  refine W.eq (g2 := F0 m 12 ls [.ref q9]) rfl ?_
  refine lv_astore (lv' := [(4, .ref q9), (0, .ref pm), (1, .int k), (2, .int n), (3, .ref out)]) hx hb d_LW_page_12 hl (by decide) rfl (fun ls hl => ?_)
  refine lv_iconst (v := 1) hx hb d_LW_page_14 (by decide) ?_
  have hP : va_P (gD G) cls9 ([] ++ va_pl (out :: L) f) H := hP
  have hD : va_D (mA (out :: L) f sz) ([] ++ va_pl (out :: L) f) := hD
  exact pz_iret hx hb hr rfl hlocks hK hP hD hS (Nat.le_of_ble_eq_true rfl) (Nat.le_of_ble_eq_true rfl) ⟨rfl, rfl⟩ d_LW_page_15
set_option maxHeartbeats 4000000 in
set_option maxRecDepth 100000 in
/-- law: where -/
theorem c_LW_where (l : Launch) (G : gG) (L : List Nat) (f : Nat → va_E) (sz : Nat) (pm al ad el ed fr op to sa fo : Nat) (xs ys : List Nat) (its : List It) (F9 : Fr) (pgs : List (Fr × Pg)) (F : Fr) (P : Op) (T : Tt) (out : Nat) (g : Nat → Int64) (i : Int32) (hR : RX G L f pm al ad el ed fr op to sa fo xs ys (its, F9, pgs, F, P, T)) (hout : f out = .inl (cJ G, 1, .inr (.inl g))) (hpg : pgs.length ≤ 512) (hi : 0 ≤ i ∧ i < nI its.length) : mI l y_LW_where w_LW_where ({ frames := 4, cells := 0, slots := 0, locals := 86 }) G (out :: L) f sz [.ref pm, .int i, .ref out] 0 0 (fun r u => r = 0 ∧ ∃ L1 g1, u.1 = out :: L1 ∧ u.2 out = .inl (cJ G, 1, .inr (.inl g1)) ∧ g1 0 = (wh_v pgs i 0).toInt64 ∧  RX G L1 u.2 pm al ad el ed fr op to sa fo xs ys (its, F9, pgs, F, P, T)) := by
  refine pz_metW (cc := method_10_code) (maxL := 4) (ret := (some .int)) (hh := [(0, 9, 12, 36)]) (by decide) rfl (Nat.le_of_ble_eq_true rfl) ?_
  intro p e s m below meth c ls hx hb hr hml hts hown hlocks htab hsz hK hP hD hS hA hz hl
  have htb : ∀ w ∈ TB, w.before _ s = true := fun w h => hts w (List.mem_cons_of_mem _ h)
  have hl : lv_has ls 4 [(0, .ref pm), (1, .int i), (2, .ref out)] := hl
  obtain ⟨hp, hfp, -⟩ := id hR
  have hP : va_P (gD G) cls9 ([(out, (f out))] ++ va_pl L f) s.heap := hP
  have hD : va_D (mA (out :: L) f sz) ([(out, (f out))] ++ va_pl L f) := hD
  refine lv_aload_n hx hb d_LW_where_0 rfl (lv_at hl 2 rfl) ?_
  refine lv_iconst (v := 0) hx hb d_LW_where_1 (by decide) ?_
  refine lv_aload_n hx hb d_LW_where_2 rfl (lv_at hl 0 rfl) ?_
  refine lv_iload_n hx hb d_LW_where_3 rfl (lv_at hl 1 rfl) ?_
  refine vp_callSi (va_Run.run (va_runV (As := [.int i]) (rest := [.int 0, .ref out]) ⟨hx, hb, hml, hown, hts⟩ (c_PM_where l G L f _ pm al ad el ed fr op to sa fo xs ys its F9 pgs F P T i hR hpg hi) (cwV 1 hts (tb_V tw_659 tw_660 tw_661 tw_1 tw_662) rfl rfl rfl (by decide +kernel) ⟨(Nat.le_of_ble_eq_true rfl), (Nat.le_of_ble_eq_true rfl)⟩) (pz_preV (zz_ok _ _ _) hK hP hD hS hA hz (ci := 4) rfl rfl hp hfp) rfl rfl hl.1 rfl (lv_room (Nat.le_of_ble_eq_true rfl)) d_LW_where_4 ⟨(Nat.le_of_ble_eq_true rfl), (Nat.le_of_ble_eq_true rfl)⟩)) (fun r1 hw => ?_)
  have hw : r1 = (wh_v pgs i 0) := hw
  subst r1
  have hno : out ∉ L := xd_out hD
  obtain ⟨f8, ef8⟩ : ∃ y, y = va_up f out (f out) := ⟨_, rfl⟩
  have hP : va_P (gD G) cls9 ([] ++ va_pl (out :: L) f8) s.heap := by rw [ef8]; exact (xd_pl hno).symm ▸ hP
  have hD : va_D (mA (out :: L) f sz) ([] ++ va_pl (out :: L) f8) := by rw [ef8]; exact (xd_pl hno).symm ▸ hD
  have ho9 : f8 out = .inl (cJ G, 1, .inr (.inl g)) := by rw [ef8]; exact (va_up_self _ _ _).trans hout
  have hk9 : ∀ z, z ∈ L → f8 z = f z := fun z hz9 => by rw [ef8]; exact va_up_ne _ _ (Ne.symm (pz_nef hno hz9))
  refine lv_i2l hx hb d_LW_where_7 rfl ?_
  have hin2 : vp_in 0 1 := vp_in_nI (n := 0) (N := 1) (by decide) (by decide)
  refine pz_last hx hb hK hP hD hS 1 (List.mem_cons_self) ho9 rfl hin2 d_LW_where_8 (fun f3 H locs ef3 hP hD hS => ?_)
  refine lv_goto (tgt := 15) hx hb d_LW_where_9 (by decide) ?_
  refine lv_iconst (v := 0) hx hb d_LW_where_15 (by decide) ?_
  have hk8 : ∀ z, z ∈ L → f3 z = f8 z := fun z hz9 => by rw [ef3]; exact va_up_ne _ _ (Ne.symm (pz_nef hno hz9))
  have hR8 : RX G L f3 pm al ad el ed fr op to sa fo xs ys (its, F9, pgs, F, P, T) := rx_congr (fun z hz9 => (hk8 z hz9).trans (hk9 z hz9)) hR
  exact pz_iret hx hb hr rfl hlocks hK hP hD hS (Nat.le_of_ble_eq_true rfl) (Nat.le_of_ble_eq_true rfl) ⟨rfl, L, _, rfl, by rw [ef3]; exact va_up_self _ _ _, xd_at _ _, hR8⟩ d_LW_where_16
set_option maxHeartbeats 4000000 in
set_option maxRecDepth 100000 in
/-- law: where throws -/
theorem x_LW_where (l : Launch) (hl9 : l.stackTraces = false) (G : gG) (L : List Nat) (f : Nat → va_E) (sz : Nat) (pm al ad el ed fr op to sa fo : Nat) (xs ys : List Nat) (its : List It) (F9 : Fr) (pgs : List (Fr × Pg)) (F : Fr) (P : Op) (T : Tt) (out : Nat) (g : Nat → Int64) (i : Int32) (hR : RX G L f pm al ad el ed fr op to sa fo xs ys (its, F9, pgs, F, P, T)) (hout : f out = .inl (cJ G, 1, .inr (.inl g))) (hno9 : ¬ (0 ≤ i ∧ i < nI its.length)) : mI l y_LW_where w_LW_where ({ frames := 7, cells := 1, slots := 6, locals := 104 }) G (out :: L) f sz [.ref pm, .int i, .ref out] 1 6 (fun r u => r = 1 ∧ u = (out :: L, f)) := by
  refine pz_metW (cc := method_10_code) (maxL := 4) (ret := (some .int)) (hh := [(0, 9, 12, 36)]) (by decide) rfl (Nat.le_of_ble_eq_true rfl) ?_
  intro p e s m below meth c ls hx hb hr hml hts hown hlocks htab hsz hK hP hD hS hA hz hl
  have htb : ∀ w ∈ TB, w.before _ s = true := fun w h => hts w (List.mem_cons_of_mem _ h)
  have hl : lv_has ls 4 [(0, .ref pm), (1, .int i), (2, .ref out)] := hl
  obtain ⟨hp, hfp, -⟩ := id hR
  have hP : va_P (gD G) cls9 ([(out, (f out))] ++ va_pl L f) s.heap := hP
  have hD : va_D (mA (out :: L) f sz) ([(out, (f out))] ++ va_pl L f) := hD
  refine lv_aload_n hx hb d_LW_where_0 rfl (lv_at hl 2 rfl) ?_
  refine lv_iconst (v := 0) hx hb d_LW_where_1 (by decide) ?_
  refine lv_aload_n hx hb d_LW_where_2 rfl (lv_at hl 0 rfl) ?_
  refine lv_iload_n hx hb d_LW_where_3 rfl (lv_at hl 1 rfl) ?_
  refine pz_cx (aa := #[]) (vx_runV (As := [.int i]) (rest := [.int 0, .ref out]) ⟨hx, hb, hml, hown, hts⟩ (x_PM_where l hl9 G L f _ pm al ad el ed fr op to sa fo xs ys its F9 pgs F P T i hR hno9) (cwV 1 hts (tb_V tw_659 tw_660 tw_661 tw_1 tw_662) rfl rfl rfl (by decide +kernel) ⟨(Nat.le_of_ble_eq_true rfl), (Nat.le_of_ble_eq_true rfl)⟩) (pz_preV (zz_ok _ _ _) hK hP hD hS hA hz (ci := 4) rfl rfl hp hfp) rfl rfl hl.1 rfl (lv_room (Nat.le_of_ble_eq_true rfl)) d_LW_where_4 ⟨(Nat.le_of_ble_eq_true rfl), (Nat.le_of_ble_eq_true rfl)⟩) hP hD hS hA (fun ce q9 H locs hP hD hS h1 h2 h3 => ?_)
  refine vx_catch (own := "PageMakerLaw") (name := "java/lang/IndexOutOfBoundsException") (E := "java/lang/IndexOutOfBoundsException") hown [] _ _ htab (fun z h9 => by cases h9) (by decide) (by decide) (htb _ tw_606) (nb_use hz.1 _ tn_617) h1 h2 h3 ?_
  refine W.eq (g2 := F0 m 12 ls [.ref q9]) rfl ?_
  refine lv_astore_n (lv' := [(3, .ref q9), (0, .ref pm), (1, .int i), (2, .ref out)]) hx hb d_LW_where_12 rfl hl (by decide) rfl (fun ls hl => ?_)
  refine lv_iconst (v := 1) hx hb d_LW_where_13 (by decide) ?_
  have hP : va_P (gD G) cls9 ([] ++ va_pl (out :: L) f) H := hP
  have hD : va_D (mA (out :: L) f sz) ([] ++ va_pl (out :: L) f) := hD
  exact pz_iret hx hb hr rfl hlocks hK hP hD hS (Nat.le_of_ble_eq_true rfl) (Nat.le_of_ble_eq_true rfl) ⟨rfl, rfl⟩ d_LW_where_14
set_option maxHeartbeats 4000000 in
set_option maxRecDepth 100000 in
/-- law: open -/
theorem c_LW_open (l : Launch) (G : gG) (L : List Nat) (f : Nat → va_E) (sz : Nat) (pm al ad el ed fr op to sa fo : Nat) (xs ys : List Nat) (its : List It) (F9 : Fr) (pgs : List (Fr × Pg)) (F : Fr) (P : Op) (T : Tt) (out : Nat) (g : Nat → Int64) (n : Nat) (hR : RX G L f pm al ad el ed fr op to sa fo xs ys (its, F9, pgs, F, P, T)) (hout : f out = .inl (cJ G, 1, .inr (.inl g))) (hn : n < 10) : mI l y_LW_open w_LW_open ({ frames := 1, cells := 0, slots := 0, locals := 21 }) G (out :: L) f sz [.ref pm, .int (nI n), .ref out] 0 0 (fun r u => r = 0 ∧ ∃ L1 g1, u.1 = out :: L1 ∧ u.2 out = .inl (cJ G, 1, .inr (.inl g1)) ∧ g1 0 = (op_v P T n) ∧  RX G L1 u.2 pm al ad el ed fr op to sa fo xs ys (its, F9, pgs, F, P, T)) := by
  refine pz_metW (cc := method_11_code) (maxL := 4) (ret := (some .int)) (hh := [(0, 8, 11, 36)]) (by decide) rfl (Nat.le_of_ble_eq_true rfl) ?_
  intro p e s m below meth c ls hx hb hr hml hts hown hlocks htab hsz hK hP hD hS hA hz hl
  have htb : ∀ w ∈ TB, w.before _ s = true := fun w h => hts w (List.mem_cons_of_mem _ h)
  have hl : lv_has ls 4 [(0, .ref pm), (1, .int (nI n)), (2, .ref out)] := hl
  obtain ⟨hp, hfp, -⟩ := id hR
  have hP : va_P (gD G) cls9 ([(out, (f out))] ++ va_pl L f) s.heap := hP
  have hD : va_D (mA (out :: L) f sz) ([(out, (f out))] ++ va_pl L f) := hD
  refine lv_aload_n hx hb d_LW_open_0 rfl (lv_at hl 2 rfl) ?_
  refine lv_iconst (v := 0) hx hb d_LW_open_1 (by decide) ?_
  refine lv_aload_n hx hb d_LW_open_2 rfl (lv_at hl 0 rfl) ?_
  refine lv_iload_n hx hb d_LW_open_3 rfl (lv_at hl 1 rfl) ?_
  refine vp_callSl (va_Run.run (va_runV (As := [.int (nI n)]) (rest := [.int 0, .ref out]) ⟨hx, hb, hml, hown, hts⟩ (c_PM_open l G L f _ pm al ad el ed fr op to sa fo xs ys its F9 pgs F P T n hR hn) (cwV 1 hts (tb_V tw_667 tw_668 tw_669 tw_1 tw_670) rfl rfl rfl (by decide +kernel) ⟨(Nat.le_of_ble_eq_true rfl), (Nat.le_of_ble_eq_true rfl)⟩) (pz_preV (zz_ok _ _ _) hK hP hD hS hA hz (ci := 4) rfl rfl hp hfp) rfl rfl hl.1 rfl (lv_room (Nat.le_of_ble_eq_true rfl)) d_LW_open_4 ⟨(Nat.le_of_ble_eq_true rfl), (Nat.le_of_ble_eq_true rfl)⟩)) (fun r1 hw => ?_)
  have hw : r1 = (op_v P T n) := hw
  subst r1
  have hno : out ∉ L := xd_out hD
  obtain ⟨f8, ef8⟩ : ∃ y, y = va_up f out (f out) := ⟨_, rfl⟩
  have hP : va_P (gD G) cls9 ([] ++ va_pl (out :: L) f8) s.heap := by rw [ef8]; exact (xd_pl hno).symm ▸ hP
  have hD : va_D (mA (out :: L) f sz) ([] ++ va_pl (out :: L) f8) := by rw [ef8]; exact (xd_pl hno).symm ▸ hD
  have ho9 : f8 out = .inl (cJ G, 1, .inr (.inl g)) := by rw [ef8]; exact (va_up_self _ _ _).trans hout
  have hk9 : ∀ z, z ∈ L → f8 z = f z := fun z hz9 => by rw [ef8]; exact va_up_ne _ _ (Ne.symm (pz_nef hno hz9))
  have hin2 : vp_in 0 1 := vp_in_nI (n := 0) (N := 1) (by decide) (by decide)
  refine pz_last hx hb hK hP hD hS 1 (List.mem_cons_self) ho9 rfl hin2 d_LW_open_7 (fun f3 H locs ef3 hP hD hS => ?_)
  refine lv_goto (tgt := 14) hx hb d_LW_open_8 (by decide) ?_
  refine lv_iconst (v := 0) hx hb d_LW_open_14 (by decide) ?_
  have hk8 : ∀ z, z ∈ L → f3 z = f8 z := fun z hz9 => by rw [ef3]; exact va_up_ne _ _ (Ne.symm (pz_nef hno hz9))
  have hR8 : RX G L f3 pm al ad el ed fr op to sa fo xs ys (its, F9, pgs, F, P, T) := rx_congr (fun z hz9 => (hk8 z hz9).trans (hk9 z hz9)) hR
  exact pz_iret hx hb hr rfl hlocks hK hP hD hS (Nat.le_of_ble_eq_true rfl) (Nat.le_of_ble_eq_true rfl) ⟨rfl, L, _, rfl, by rw [ef3]; exact va_up_self _ _ _, xd_at _ _, hR8⟩ d_LW_open_15
set_option maxHeartbeats 4000000 in
set_option maxRecDepth 100000 in
/-- law: open throws -/
theorem x_LW_open (l : Launch) (hl9 : l.stackTraces = false) (G : gG) (L : List Nat) (f : Nat → va_E) (sz : Nat) (pm al ad el ed fr op to sa fo : Nat) (xs ys : List Nat) (its : List It) (F9 : Fr) (pgs : List (Fr × Pg)) (F : Fr) (P : Op) (T : Tt) (out : Nat) (g : Nat → Int64) (n : Int32) (hR : RX G L f pm al ad el ed fr op to sa fo xs ys (its, F9, pgs, F, P, T)) (hout : f out = .inl (cJ G, 1, .inr (.inl g))) (hno9 : ¬ (0 ≤ n ∧ n < 10)) : mI l y_LW_open w_LW_open ({ frames := 7, cells := 1, slots := 6, locals := 103 }) G (out :: L) f sz [.ref pm, .int n, .ref out] 1 6 (fun r u => r = 1 ∧ u = (out :: L, f)) := by
  refine pz_metW (cc := method_11_code) (maxL := 4) (ret := (some .int)) (hh := [(0, 8, 11, 36)]) (by decide) rfl (Nat.le_of_ble_eq_true rfl) ?_
  intro p e s m below meth c ls hx hb hr hml hts hown hlocks htab hsz hK hP hD hS hA hz hl
  have htb : ∀ w ∈ TB, w.before _ s = true := fun w h => hts w (List.mem_cons_of_mem _ h)
  have hl : lv_has ls 4 [(0, .ref pm), (1, .int n), (2, .ref out)] := hl
  obtain ⟨hp, hfp, -⟩ := id hR
  have hP : va_P (gD G) cls9 ([(out, (f out))] ++ va_pl L f) s.heap := hP
  have hD : va_D (mA (out :: L) f sz) ([(out, (f out))] ++ va_pl L f) := hD
  refine lv_aload_n hx hb d_LW_open_0 rfl (lv_at hl 2 rfl) ?_
  refine lv_iconst (v := 0) hx hb d_LW_open_1 (by decide) ?_
  refine lv_aload_n hx hb d_LW_open_2 rfl (lv_at hl 0 rfl) ?_
  refine lv_iload_n hx hb d_LW_open_3 rfl (lv_at hl 1 rfl) ?_
  refine pz_cx (aa := #[]) (vx_runV (As := [.int n]) (rest := [.int 0, .ref out]) ⟨hx, hb, hml, hown, hts⟩ (x_PM_open l hl9 G L f _ pm n hno9) (cwV 1 hts (tb_V tw_667 tw_668 tw_669 tw_1 tw_670) rfl rfl rfl (by decide +kernel) ⟨(Nat.le_of_ble_eq_true rfl), (Nat.le_of_ble_eq_true rfl)⟩) (pz_preV (zz_ok _ _ _) hK hP hD hS hA hz (ci := 4) rfl rfl hp hfp) rfl rfl hl.1 rfl (lv_room (Nat.le_of_ble_eq_true rfl)) d_LW_open_4 ⟨(Nat.le_of_ble_eq_true rfl), (Nat.le_of_ble_eq_true rfl)⟩) hP hD hS hA (fun ce q9 H locs hP hD hS h1 h2 h3 => ?_)
  refine vx_catch (own := "PageMakerLaw") (name := "java/lang/IndexOutOfBoundsException") (E := "java/lang/IndexOutOfBoundsException") hown [] _ _ htab (fun z h9 => by cases h9) (by decide) (by decide) (htb _ tw_606) (nb_use hz.1 _ tn_617) h1 h2 h3 ?_
  refine W.eq (g2 := F0 m 11 ls [.ref q9]) rfl ?_
  refine lv_astore_n (lv' := [(3, .ref q9), (0, .ref pm), (1, .int n), (2, .ref out)]) hx hb d_LW_open_11 rfl hl (by decide) rfl (fun ls hl => ?_)
  refine lv_iconst (v := 1) hx hb d_LW_open_12 (by decide) ?_
  have hP : va_P (gD G) cls9 ([] ++ va_pl (out :: L) f) H := hP
  have hD : va_D (mA (out :: L) f sz) ([] ++ va_pl (out :: L) f) := hD
  exact pz_iret hx hb hr rfl hlocks hK hP hD hS (Nat.le_of_ble_eq_true rfl) (Nat.le_of_ble_eq_true rfl) ⟨rfl, rfl⟩ d_LW_open_13
set_option maxHeartbeats 4000000 in
set_option maxRecDepth 100000 in
/-- law: stands -/
theorem c_LW_stands (l : Launch) (G : gG) (L : List Nat) (f : Nat → va_E) (sz : Nat) (pm al ad el ed fr op to sa fo : Nat) (xs ys : List Nat) (its : List It) (F9 : Fr) (pgs : List (Fr × Pg)) (F : Fr) (P : Op) (T : Tt) (out : Nat) (g : Nat → Int64) (k y a i : Nat) (b0 b1 c0 c1 : Int32) (hR : RX G L f pm al ad el ed fr op to sa fo xs ys (its, F9, pgs, F, P, T)) (hout : f out = .inl (cJ G, 1, .inr (.inl g))) (hpg : pgs.length ≤ 512) (hn5 : its.length ≤ 512) (hy9 : ys[k]? = some y) (pg : Fr × Pg) (hp9 : pgs[k]? = some pg) (hpa : pg.2.1 = nI a) (hbx : its[a]? = some (.inl (b0, b1))) (hai : a ≤ i) (hib : nI i < pg.2.2.1) (hi9 : its[i]? = some (.inl (c0, c1))) (h6 : vp_in pg.2.2.2.2.2.2.2.1 4) : mI l y_LW_stands w_LW_stands ({ frames := 5, cells := 2, slots := 8, locals := 115 }) G (out :: L) f sz [.ref pm, .int (nI k), .int (nI i), .ref out] 2 8 (fun r u => r = 0 ∧ ∃ L1 g1, u.1 = out :: L1 ∧ u.2 out = .inl (cJ G, 1, .inr (.inl g1)) ∧ g1 0 = st_v pg.2 (t_list its pg.1 a i) c0 ∧  RX G L1 u.2 pm al ad el ed fr op to sa fo xs ys (its, F9, pgs, F, P, T)) := by
  refine pz_metW (cc := method_9_code) (maxL := 5) (ret := (some .int)) (hh := [(0, 9, 12, 36)]) (by decide) rfl (Nat.le_of_ble_eq_true rfl) ?_
  intro p e s m below meth c ls hx hb hr hml hts hown hlocks htab hsz hK hP hD hS hA hz hl
  have htb : ∀ w ∈ TB, w.before _ s = true := fun w h => hts w (List.mem_cons_of_mem _ h)
  have hl : lv_has ls 5 [(0, .ref pm), (1, .int (nI k)), (2, .int (nI i)), (3, .ref out)] := hl
  obtain ⟨hp, hfp, -⟩ := id hR
  have hP : va_P (gD G) cls9 ([(out, (f out))] ++ va_pl L f) s.heap := hP
  have hD : va_D (mA (out :: L) f sz) ([(out, (f out))] ++ va_pl L f) := hD
  refine lv_aload_n hx hb d_LW_stands_0 rfl (lv_at hl 3 rfl) ?_
  refine lv_iconst (v := 0) hx hb d_LW_stands_1 (by decide) ?_
  refine lv_aload_n hx hb d_LW_stands_2 rfl (lv_at hl 0 rfl) ?_
  refine lv_iload_n hx hb d_LW_stands_3 rfl (lv_at hl 1 rfl) ?_
  refine lv_iload_n hx hb d_LW_stands_4 rfl (lv_at hl 2 rfl) ?_
  refine pz_cl (va_runV (As := [.int (nI k), .int (nI i)]) (rest := [.int 0, .ref out]) ⟨hx, hb, hml, hown, hts⟩ (c_PM_stands l G L f _ pm al ad el ed fr op to sa fo xs ys its F9 pgs F P T k y a i b0 b1 c0 c1 hR hpg hn5 hy9 pg hp9 hpa hbx hai hib hi9 h6) (cwV 2 hts (tb_V tw_635 tw_636 tw_637 tw_1 tw_638) rfl rfl rfl (by decide +kernel) ⟨(Nat.le_of_ble_eq_true rfl), (Nat.le_of_ble_eq_true rfl)⟩) (pz_preV (zz_ok _ _ _) hK hP hD hS hA hz (ci := 4) rfl rfl hp hfp) rfl rfl hl.1 rfl (lv_room (Nat.le_of_ble_eq_true rfl)) d_LW_stands_5 ⟨(Nat.le_of_ble_eq_true rfl), (Nat.le_of_ble_eq_true rfl)⟩) hP hD hS hA (fun r9 L9 f9 H locs hw hP hD hS => ?_)
  obtain ⟨er9, hR9⟩ := hw
  have er9 : r9 = st_v pg.2 (t_list its pg.1 a i) c0 := er9
  subst er9
  have hno : out ∉ L9 := xd_out hD
  obtain ⟨f8, ef8⟩ : ∃ y, y = va_up f9 out (f out) := ⟨_, rfl⟩
  have hP : va_P (gD G) cls9 ([] ++ va_pl (out :: L9) f8) H := by rw [ef8]; exact (xd_pl hno).symm ▸ hP
  have hD : va_D (mA (out :: L) f sz) ([] ++ va_pl (out :: L9) f8) := by rw [ef8]; exact (xd_pl hno).symm ▸ hD
  have ho9 : f8 out = .inl (cJ G, 1, .inr (.inl g)) := by rw [ef8]; exact (va_up_self _ _ _).trans hout
  have hk9 : ∀ z, z ∈ L9 → f8 z = f9 z := fun z hz9 => by rw [ef8]; exact va_up_ne _ _ (Ne.symm (pz_nef hno hz9))
  have hin1 : vp_in 0 1 := vp_in_nI (n := 0) (N := 1) (by decide) (by decide)
  refine pz_last hx hb hK hP hD hS 1 (List.mem_cons_self) ho9 rfl hin1 d_LW_stands_8 (fun f2 H locs ef2 hP hD hS => ?_)
  refine lv_goto (tgt := 16) hx hb d_LW_stands_9 (by decide) ?_
  refine lv_iconst (v := 0) hx hb d_LW_stands_16 (by decide) ?_
  have hk8 : ∀ z, z ∈ L9 → f2 z = f8 z := fun z hz9 => by rw [ef2]; exact va_up_ne _ _ (Ne.symm (pz_nef hno hz9))
  have hR8 : RX G L9 f2 pm al ad el ed fr op to sa fo xs ys (its, F9, pgs, F, P, T) := rx_congr (fun z hz9 => (hk8 z hz9).trans (hk9 z hz9)) hR9
  exact pz_iret hx hb hr rfl hlocks hK hP hD hS (Nat.le_of_ble_eq_true rfl) (Nat.le_of_ble_eq_true rfl) ⟨rfl, L9, _, rfl, by rw [ef2]; exact va_up_self _ _ _, xd_at _ _, hR8⟩ d_LW_stands_17
set_option maxHeartbeats 4000000 in
set_option maxRecDepth 100000 in
/-- law: stands throws -/
theorem x_LW_stands (l : Launch) (hl9 : l.stackTraces = false) (G : gG) (L : List Nat) (f : Nat → va_E) (sz : Nat) (pm al ad el ed fr op to sa fo : Nat) (xs ys : List Nat) (its : List It) (F9 : Fr) (pgs : List (Fr × Pg)) (F : Fr) (P : Op) (T : Tt) (out : Nat) (g : Nat → Int64) (k i : Int32) (hR : RX G L f pm al ad el ed fr op to sa fo xs ys (its, F9, pgs, F, P, T)) (hout : f out = .inl (cJ G, 1, .inr (.inl g))) (hpg : pgs.length ≤ 512) (hn5 : its.length ≤ 512) (hno9 : ¬ st_ok its pgs k i) : mI l y_LW_stands w_LW_stands ({ frames := 8, cells := 1, slots := 6, locals := 128 }) G (out :: L) f sz [.ref pm, .int k, .int i, .ref out] 1 6 (fun r u => r = 1 ∧ u = (out :: L, f)) := by
  refine pz_metW (cc := method_9_code) (maxL := 5) (ret := (some .int)) (hh := [(0, 9, 12, 36)]) (by decide) rfl (Nat.le_of_ble_eq_true rfl) ?_
  intro p e s m below meth c ls hx hb hr hml hts hown hlocks htab hsz hK hP hD hS hA hz hl
  have htb : ∀ w ∈ TB, w.before _ s = true := fun w h => hts w (List.mem_cons_of_mem _ h)
  have hl : lv_has ls 5 [(0, .ref pm), (1, .int k), (2, .int i), (3, .ref out)] := hl
  obtain ⟨hp, hfp, -⟩ := id hR
  have hP : va_P (gD G) cls9 ([(out, (f out))] ++ va_pl L f) s.heap := hP
  have hD : va_D (mA (out :: L) f sz) ([(out, (f out))] ++ va_pl L f) := hD
  refine lv_aload_n hx hb d_LW_stands_0 rfl (lv_at hl 3 rfl) ?_
  refine lv_iconst (v := 0) hx hb d_LW_stands_1 (by decide) ?_
  refine lv_aload_n hx hb d_LW_stands_2 rfl (lv_at hl 0 rfl) ?_
  refine lv_iload_n hx hb d_LW_stands_3 rfl (lv_at hl 1 rfl) ?_
  refine lv_iload_n hx hb d_LW_stands_4 rfl (lv_at hl 2 rfl) ?_
  refine pz_cx (aa := #[]) (vx_runV (As := [.int k, .int i]) (rest := [.int 0, .ref out]) ⟨hx, hb, hml, hown, hts⟩ (x_PM_stands l hl9 G L f _ pm al ad el ed fr op to sa fo xs ys its F9 pgs F P T k i hR hpg hn5 hno9) (cwV 2 hts (tb_V tw_635 tw_636 tw_637 tw_1 tw_638) rfl rfl rfl (by decide +kernel) ⟨(Nat.le_of_ble_eq_true rfl), (Nat.le_of_ble_eq_true rfl)⟩) (pz_preV (zz_ok _ _ _) hK hP hD hS hA hz (ci := 4) rfl rfl hp hfp) rfl rfl hl.1 rfl (lv_room (Nat.le_of_ble_eq_true rfl)) d_LW_stands_5 ⟨(Nat.le_of_ble_eq_true rfl), (Nat.le_of_ble_eq_true rfl)⟩) hP hD hS hA (fun ce q9 H locs hP hD hS h1 h2 h3 => ?_)
  refine vx_catch (own := "PageMakerLaw") (name := "java/lang/IndexOutOfBoundsException") (E := "java/lang/IndexOutOfBoundsException") hown [] _ _ htab (fun z h9 => by cases h9) (by decide) (by decide) (htb _ tw_606) (nb_use hz.1 _ tn_617) h1 h2 h3 ?_
  refine W.eq (g2 := F0 m 12 ls [.ref q9]) rfl ?_
  refine lv_astore (lv' := [(4, .ref q9), (0, .ref pm), (1, .int k), (2, .int i), (3, .ref out)]) hx hb d_LW_stands_12 hl (by decide) rfl (fun ls hl => ?_)
  refine lv_iconst (v := 1) hx hb d_LW_stands_14 (by decide) ?_
  have hP : va_P (gD G) cls9 ([] ++ va_pl (out :: L) f) H := hP
  have hD : va_D (mA (out :: L) f sz) ([] ++ va_pl (out :: L) f) := hD
  exact pz_iret hx hb hr rfl hlocks hK hP hD hS (Nat.le_of_ble_eq_true rfl) (Nat.le_of_ble_eq_true rfl) ⟨rfl, rfl⟩ d_LW_stands_15
