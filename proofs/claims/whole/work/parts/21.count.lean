/-! PageMaker: counting, totalsOf -/
theorem k_by {P : Prop} {r : Int32} (h : k_b P r) (hp : P) : r = 1 := h.elim (fun q => q.1) (fun q => absurd hp q.2)
theorem k_bn {P : Prop} {r : Int32} (h : k_b P r) (hp : ¬ P) : r = 0 := h.elim (fun q => absurd q.2 hp) (fun q => q.1)
/-- m items from k on are added -/
def t_run (its : List It) (g : Int32) (k : Nat) : Nat → Tt → Tt
  | 0, T => T
  | m + 1, T => t_run its g (k + 1) m (match its[k]? with
    | some it => t_add it g T
    | none => T)
theorem t_run_succ {its : List It} {g : Int32} {k m : Nat} {T : Tt} {it : It} (h : its[k]? = some it) : t_run its g k (m + 1) T = t_run its g (k + 1) m (t_add it g T) := by
  show t_run its g (k + 1) m _ = _
  rw [h]
/-- the top glue of a page whose first box is at a -/
def t_top (its : List It) (F : Fr) (a : Nat) : Tt := match its[a]? with
  | some (.inl (h, _)) => t_sp (k_top F.2.1 h) t_0
  | _ => t_0
/-- the list of a page from its first box at a up to b -/
def t_list (its : List It) (F : Fr) (a b : Nat) : Tt := t_run its F.2.2 a (b - a) (t_top its F a)
set_option maxHeartbeats 4000000 in
set_option maxRecDepth 100000 in
/-- items() -/
theorem c_PM_items (l : Launch) (G : gG) (L : List Nat) (f : Nat → va_E) (sz : Nat) (pm al el fr op ad : Nat) (xs : List Nat) (hp : pm ∈ L) (hfp : f pm = .inr (4, [.ref al, .ref el, .ref fr, .ref op])) (h_al : LR G L f al ad xs) : sI l y_PM_items w_PM_items ({ frames := 1, cells := 0, slots := 0, locals := 20 }) G L f sz [.ref pm] (fun r => r = nI xs.length) := by
  refine pz_met (cc := prog_1_method_7_code) (maxL := 1) (ret := (some .int)) (by decide) rfl (Nat.le_of_ble_eq_true rfl) ?_
  intro p e s m below meth c ls hx hb hr hml hts hown hlocks hin hsz hK hP hD hS hA hz hl
  have htb : ∀ w ∈ TB, w.before _ s = true := fun w h => hts w (List.mem_cons_of_mem _ h)
  have hl : lv_has ls 1 [(0, .ref pm)] := hl
  obtain ⟨mo_al, hm_al, hc_al, -⟩ := id h_al
  refine lv_aload_n hx hb d_PM_items_0 rfl (lv_at hl 0 rfl) ?_
  refine pz_get (ci := 4) (C := "PageMaker") (T := T_PM) (N := 4) hx hb htb in_PM hown hK hP hp hfp rfl 0 (by decide) (htb _ tw_160) (fun _ h9 => h9) rfl d_PM_items_1 ?_
  refine vp_callSi (va_Run.run (va_runV (As := []) (rest := []) ⟨hx, hb, hml, hown, hts⟩ (al_size l G L f _ al ad xs h_al) (cwV 0 hts (tb_V tw_177 tw_178 tw_179 tw_4 tw_180) rfl rfl rfl (by decide +kernel) ⟨(Nat.le_of_ble_eq_true rfl), (Nat.le_of_ble_eq_true rfl)⟩) (pz_preV (zz_ok _ _ _) hK hP hD hS hA hz (ci := 0) rfl rfl hm_al hc_al) rfl rfl hl.1 rfl (lv_room (Nat.le_of_ble_eq_true rfl)) d_PM_items_4 ⟨(Nat.le_of_ble_eq_true rfl), (Nat.le_of_ble_eq_true rfl)⟩)) (fun r1 hw => ?_)
  have hw : r1 = nI xs.length := hw
  subst r1
  exact pz_iretS hx hb hr rfl hlocks rfl d_PM_items_7
set_option maxHeartbeats 4000000 in
set_option maxRecDepth 100000 in
/-- pages() -/
theorem c_PM_pages (l : Launch) (G : gG) (L : List Nat) (f : Nat → va_E) (sz : Nat) (pm al el fr op ed : Nat) (ys : List Nat) (hp : pm ∈ L) (hfp : f pm = .inr (4, [.ref al, .ref el, .ref fr, .ref op])) (h_el : LR G L f el ed ys) : sI l y_PM_pages w_PM_pages ({ frames := 1, cells := 0, slots := 0, locals := 20 }) G L f sz [.ref pm] (fun r => r = nI ys.length) := by
  refine pz_met (cc := prog_1_method_8_code) (maxL := 1) (ret := (some .int)) (by decide) rfl (Nat.le_of_ble_eq_true rfl) ?_
  intro p e s m below meth c ls hx hb hr hml hts hown hlocks hin hsz hK hP hD hS hA hz hl
  have htb : ∀ w ∈ TB, w.before _ s = true := fun w h => hts w (List.mem_cons_of_mem _ h)
  have hl : lv_has ls 1 [(0, .ref pm)] := hl
  obtain ⟨mo_el, hm_el, hc_el, -⟩ := id h_el
  refine lv_aload_n hx hb d_PM_pages_0 rfl (lv_at hl 0 rfl) ?_
  refine pz_get (ci := 4) (C := "PageMaker") (T := T_PM) (N := 4) hx hb htb in_PM hown hK hP hp hfp rfl 1 (by decide) (htb _ tw_161) (fun _ h9 => h9) rfl d_PM_pages_1 ?_
  refine vp_callSi (va_Run.run (va_runV (As := []) (rest := []) ⟨hx, hb, hml, hown, hts⟩ (al_size l G L f _ el ed ys h_el) (cwV 0 hts (tb_V tw_177 tw_178 tw_179 tw_4 tw_180) rfl rfl rfl (by decide +kernel) ⟨(Nat.le_of_ble_eq_true rfl), (Nat.le_of_ble_eq_true rfl)⟩) (pz_preV (zz_ok _ _ _) hK hP hD hS hA hz (ci := 0) rfl rfl hm_el hc_el) rfl rfl hl.1 rfl (lv_room (Nat.le_of_ble_eq_true rfl)) d_PM_pages_4 ⟨(Nat.le_of_ble_eq_true rfl), (Nat.le_of_ble_eq_true rfl)⟩)) (fun r1 hw => ?_)
  have hw : r1 = nI ys.length := hw
  subst r1
  exact pz_iretS hx hb hr rfl hlocks rfl d_PM_pages_7
set_option maxHeartbeats 4000000 in
set_option maxRecDepth 100000 in
/-- isItem(i) -/
theorem c_PM_isItem (l : Launch) (G : gG) (L : List Nat) (f : Nat → va_E) (sz : Nat) (pm al el fr op ad : Nat) (xs : List Nat) (i : Int32) (hp : pm ∈ L) (hfp : f pm = .inr (4, [.ref al, .ref el, .ref fr, .ref op])) (h_al : LR G L f al ad xs) : sI l y_PM_isItem w_PM_isItem ({ frames := 1, cells := 0, slots := 0, locals := 20 }) G L f sz [.ref pm, .int i] (k_b (0 ≤ i ∧ i < nI xs.length)) := by
  refine pz_met (cc := prog_1_method_17_code) (maxL := 2) (ret := (some .boolean)) (by decide) rfl (Nat.le_of_ble_eq_true rfl) ?_
  intro p e s m below meth c ls hx hb hr hml hts hown hlocks hin hsz hK hP hD hS hA hz hl
  have htb : ∀ w ∈ TB, w.before _ s = true := fun w h => hts w (List.mem_cons_of_mem _ h)
  have hl : lv_has ls 2 [(0, .ref pm), (1, .int i)] := hl
  obtain ⟨mo_al, hm_al, hc_al, -⟩ := id h_al
  refine lv_iload_n hx hb d_PM_isItem_0 rfl (lv_at hl 1 rfl) ?_
  refine lv_if_lt (tgt := 19) hx hb d_PM_isItem_1 (by decide) (fun c_1 => ?_) (fun c_1 => ?_)
  · refine lv_iconst (v := 0) hx hb d_PM_isItem_19 (by decide) ?_
    exact pz_iretS hx hb hr rfl hlocks (k_b0 (fun h => absurd h.1 (i32_nle c_1))) d_PM_isItem_20
  · refine lv_iload_n hx hb d_PM_isItem_4 rfl (lv_at hl 1 rfl) ?_
    refine lv_aload_n hx hb d_PM_isItem_5 rfl (lv_at hl 0 rfl) ?_
    refine pz_get (ci := 4) (C := "PageMaker") (T := T_PM) (N := 4) hx hb htb in_PM hown hK hP hp hfp rfl 0 (by decide) (htb _ tw_160) (fun _ h9 => h9) rfl d_PM_isItem_6 ?_
    refine vp_callSi (va_Run.run (va_runV (As := []) (rest := [.int i]) ⟨hx, hb, hml, hown, hts⟩ (al_size l G L f _ al ad xs h_al) (cwV 0 hts (tb_V tw_177 tw_178 tw_179 tw_4 tw_180) rfl rfl rfl (by decide +kernel) ⟨(Nat.le_of_ble_eq_true rfl), (Nat.le_of_ble_eq_true rfl)⟩) (pz_preV (zz_ok _ _ _) hK hP hD hS hA hz (ci := 0) rfl rfl hm_al hc_al) rfl rfl hl.1 rfl (lv_room (Nat.le_of_ble_eq_true rfl)) d_PM_isItem_9 ⟨(Nat.le_of_ble_eq_true rfl), (Nat.le_of_ble_eq_true rfl)⟩)) (fun r2 hw => ?_)
    have hw : r2 = nI xs.length := hw
    subst r2
    refine lv_icmp_ge (tgt := 19) hx hb d_PM_isItem_12 (by decide) (fun c_3 => ?_) (fun c_3 => ?_)
    · refine lv_iconst (v := 0) hx hb d_PM_isItem_19 (by decide) ?_
      exact pz_iretS hx hb hr rfl hlocks (k_b0 (fun h => absurd h.2 (i32_nlt c_3))) d_PM_isItem_20
    · refine lv_iconst (v := 1) hx hb d_PM_isItem_15 (by decide) ?_
      refine lv_goto (tgt := 20) hx hb d_PM_isItem_16 (by decide) ?_
      exact pz_iretS hx hb hr rfl hlocks (k_b1 ⟨i32_le c_1, i32_lt c_3⟩) d_PM_isItem_20
set_option maxHeartbeats 4000000 in
set_option maxRecDepth 100000 in
/-- totalsOf: its loop, at the place k with the totals T -/
theorem lp_totalsOf (l : Launch) (G : gG) (L : List Nat) (f : Nat → va_E) (sz : Nat) (pm al ad el fr op fr2 to2 sa2 x0 a b : Nat) (xs : List Nat) (its : List It) (F : Fr) {p : Program} {e : Env} {s : State} {m : MethodId} {below : List Frame} {meth : Method} {c : Code} (hx : p.tables.exec = Jvm.exec) (hb : c.code = prog_1_method_23_code) (hr : meth.sig.returnType = some (.object "PageMaker$Totals")) (hml : c.maxLocals = 7) (hts : ∀ w ∈ w_PM_totalsOf, w.before ([.ref pm, .ref fr2, .int (nI a), .int (nI b)] : List Value).toArray s = true) (hown : s.vm.findClass "PageMaker" = some m.cls) (hlocks : meth.locks = false) (hK : va_K (gD G) cls9 (gT G) s) (hA : ∀ q, s.heap.size ≤ q → mA L f sz q) (hz : gZ G (mA L f sz) s s.heap)
    (hp : pm ∈ L) (hfp : f pm = .inr (4, [.ref al, .ref el, .ref fr, .ref op])) (h_al : LR G L f al ad xs) (hX : XR L f xs its) (hr2 : fr2 ∈ L) (hfr2 : f fr2 = frE F) (hn1 : to2 ∉ L) (hn2 : sa2 ∉ L) (hn3 : sa2 ≠ to2) (hbn : b ≤ its.length) (hn5 : its.length ≤ 512) :
    ∀ (mm k : Nat) (T : Tt) (f1 : Nat → va_E) (H : Heap) (locs : List Loc) (ls : Array Slot), k + mm = b → t_run its F.2.2 k mm T = t_list its F a b → f1 to2 = toE sa2 T → f1 sa2 = saE G T → (∀ z, z ≠ to2 → z ≠ sa2 → f1 z = f z) → va_P (gD G) cls9 ([] ++ va_pl (L ++ [to2] ++ [sa2]) f1) H → va_D (mA L f sz) ([] ++ va_pl (L ++ [to2] ++ [sa2]) f1) → va_S (mA L f sz) s.heap H locs → lv_has ls 7 [(0, .ref pm), (1, .ref fr2), (2, .int (nI a)), (3, .int (nI b)), (4, .ref to2), (5, .int (nI k)), (6, .ref x0)] →
      W p l e ({ frames := 3, cells := 2, slots := 8, locals := 64 } : Room) s m ([.ref pm, .ref fr2, .int (nI a), .int (nI b)] : List Value).toArray below meth c H locs 2 8 (MQ below (va_Qr (fun u => u.1 ∉ L ∧ ∃ sa2, sa2 ∉ L ∧ sa2 ≠ u.1 ∧ u.2.1 = L ++ [u.1] ++ [sa2] ∧ u.2.2 u.1 = toE sa2 (t_list its F a b) ∧ u.2.2 sa2 = saE G (t_list its F a b) ∧ ∀ z, z ≠ u.1 → z ≠ sa2 → u.2.2 z = f z) (pz_BR (gD G) cls9 (gT G) (mA L f sz)) (mA L f sz)) ([.ref pm, .ref fr2, .int (nI a), .int (nI b)] : List Value).toArray s 2 8 (mA L f sz)) (F0 m 53 ls []) := by
  have htb : ∀ w ∈ TB, w.before _ s = true := fun w h => hts w (List.mem_cons_of_mem _ h)
  intro mm
  induction mm with
  | zero =>
    intro k T f1 H locs ls hk hT hto hsa hkeep hP hD hS hl
    refine lv_iload hx hb d_PM_totalsOf_53 (lv_at hl 5 rfl) ?_
    refine lv_iload_n hx hb d_PM_totalsOf_55 rfl (lv_at hl 3 rfl) ?_
    refine lv_icmp_ge (tgt := 92) hx hb d_PM_totalsOf_56 (by decide) (fun c_1 => ?_) (fun c_1 => ?_)
    · refine lv_aload hx hb d_PM_totalsOf_92 (lv_at hl 4 rfl) ?_
      exact pz_aret hx hb hr (Or.inl ⟨_, rfl⟩) hlocks hK hP hD hS (Nat.le_refl _) (Nat.le_refl _) ⟨hn1, sa2, hn2, hn3, rfl, by rw [← hT]; exact hto, by rw [← hT]; exact hsa, hkeep⟩ d_PM_totalsOf_94
    · exact absurd (nI_le (by omega) (by omega)) c_1
  | succ mm ih =>
    intro k T f1 H locs ls hk hT hto hsa hkeep hP hD hS hl
    have hk1 : k < its.length := by omega
    have hxl : xs.length = its.length := hX.1
    obtain ⟨x, hx9⟩ : ∃ x, xs[k]? = some x := ⟨_, List.getElem?_eq_getElem (by omega)⟩
    obtain ⟨it, hi9⟩ : ∃ it, its[k]? = some it := ⟨_, List.getElem?_eq_getElem hk1⟩
    obtain ⟨hxL, hfx, hok⟩ := hX.2 k x it hx9 hi9
    have hold : ∀ z, z ∈ L → f1 z = f z := fun z hz => hkeep z (Ne.symm (pz_nef hn1 hz)) (Ne.symm (pz_nef hn2 hz))
    have hsub : ∀ z, z ∈ L → z ∈ L ++ [to2] ++ [sa2] := fun z hz => List.mem_append_left _ (List.mem_append_left _ hz)
    have hal1 : LR G (L ++ [to2] ++ [sa2]) f1 al ad xs := lr_keep h_al hsub (hold _ h_al.choose_spec.1) (fun h => hold _ h)
    have hpm1 : f1 pm = .inr (4, [.ref al, .ref el, .ref fr, .ref op]) := (hold _ hp).trans hfp
    have hfr1 : f1 fr2 = frE F := (hold _ hr2).trans hfr2
    have hfx1 : f1 x = itE it := (hold _ hxL).trans hfx
    have hT1 : t_run its F.2.2 (k + 1) mm (t_add it F.2.2 T) = t_list its F a b := by rw [← hT]; exact (t_run_succ hi9).symm
    obtain ⟨mo_al, hm_al, hc_al, -⟩ := id hal1
    refine lv_iload hx hb d_PM_totalsOf_53 (lv_at hl 5 rfl) ?_
    refine lv_iload_n hx hb d_PM_totalsOf_55 rfl (lv_at hl 3 rfl) ?_
    refine lv_icmp_ge (tgt := 92) hx hb d_PM_totalsOf_56 (by decide) (fun c_2 => ?_) (fun c_2 => ?_)
    · exact absurd c_2 (nI_ge (by omega) (by omega))
    · refine lv_aload_n hx hb d_PM_totalsOf_59 rfl (lv_at hl 0 rfl) ?_
      refine lv_iload hx hb d_PM_totalsOf_60 (lv_at hl 5 rfl) ?_
      refine vp_callSi (va_Run.run (va_runV (As := [.int (nI k)]) (rest := []) ⟨hx, hb, hml, hown, hts⟩ (c_PM_isItem l G (L ++ [to2] ++ [sa2]) f1 _ pm al el fr op ad xs (nI k) (hsub _ hp) hpm1 hal1) (cwV 1 hts (tb_V tw_386 tw_388 tp_7 tw_1 tw_389) rfl rfl rfl (by decide +kernel) ⟨(Nat.le_of_ble_eq_true rfl), (Nat.le_of_ble_eq_true rfl)⟩) (pz_preV (zz_ok _ _ _) hK hP hD hS hA hz (ci := 4) rfl rfl (hsub _ hp) hpm1) rfl rfl hl.1 rfl (lv_room (Nat.le_of_ble_eq_true rfl)) d_PM_totalsOf_62 ⟨(Nat.le_of_ble_eq_true rfl), (Nat.le_of_ble_eq_true rfl)⟩)) (fun r3 hw => ?_)
      have hw : r3 = 1 := k_by (show k_b (0 ≤ nI k ∧ nI k < nI xs.length) r3 from hw) ⟨nI_pos' (by omega), nI_lt (by omega) (by omega)⟩
      subst hw
      refine lv_if_eq (tgt := 92) hx hb d_PM_totalsOf_65 (by decide) (fun c0 => absurd c0 (by decide)) (fun _ => ?_)
      refine lv_aload_n hx hb d_PM_totalsOf_68 rfl (lv_at hl 0 rfl) ?_
      refine pz_get (ci := 4) (C := "PageMaker") (T := T_PM) (N := 4) hx hb htb in_PM hown hK hP (hsub _ hp) hpm1 rfl 0 (by decide) (htb _ tw_160) (fun _ h9 => h9) rfl d_PM_totalsOf_69 ?_
      refine lv_iload hx hb d_PM_totalsOf_72 (lv_at hl 5 rfl) ?_
      refine va_csq (va_Run.run (va_runV (As := [.int (nI k)]) (rest := []) ⟨hx, hb, hml, hown, hts⟩ (al_get l G (L ++ [to2] ++ [sa2]) f1 _ al ad xs k x hal1 hx9) (cwV 1 hts (tb_V tw_390 tw_391 tw_392 tw_4 tw_393) rfl rfl rfl (by decide +kernel) ⟨(Nat.le_of_ble_eq_true rfl), (Nat.le_of_ble_eq_true rfl)⟩) (pz_preV (zz_ok _ _ _) hK hP hD hS hA hz (ci := 0) rfl rfl hm_al hc_al) rfl rfl hl.1 rfl (lv_room (Nat.le_of_ble_eq_true rfl)) d_PM_totalsOf_74 ⟨(Nat.le_of_ble_eq_true rfl), (Nat.le_of_ble_eq_true rfl)⟩)) (fun r4 hw => ?_)
      have hw : r4 = some x := hw
      subst hw
      refine W.eq (g2 := F0 m 77 ls [.ref x]) rfl ?_
      rcases it with ⟨ia, ib⟩ | ⟨ia, ib, io, id9⟩ | ia | ia
      · refine va_castY (C := "PageMaker$Box") hx hb hown (htb _ tw_404) (hz.1 _ tn_884) (pz_recv hK hP (ci := 5) rfl (hsub _ hxL) hfx1) d_PM_totalsOf_77 ?_
        refine lv_aload hx hb d_PM_totalsOf_80 (lv_at hl 4 rfl) ?_
        refine lv_aload_n hx hb d_PM_totalsOf_82 rfl (lv_at hl 1 rfl) ?_
        refine pz_cv (va_runU (C := "PageMaker$Box") (As := [.ref to2, .ref fr2]) (rest := []) ⟨hx, hb, hml, hown, hts⟩ (ad_box l G (L ++ [to2] ++ [sa2]) f1 _ x to2 sa2 fr2 T F ia ib (hsub _ hxL) hfx1 (List.mem_append_left _ (l_in_new _ _)) hto (hsub _ hr2) hfr1 (l_in_new _ _) hsa) (va_cwA 2 hts (tb_U tw_465 tw_467 tw_468 tw_469 tw_15 tw_470) rfl rfl rfl (hz.1 _ tn_466) (by decide +kernel) ⟨(Nat.le_of_ble_eq_true rfl), (Nat.le_of_ble_eq_true rfl)⟩) (pz_preV (zz_ok _ _ _) hK hP hD hS hA hz (ci := 5) rfl rfl (hsub _ hxL) hfx1) rfl rfl hl.1 rfl (lv_room (Nat.le_of_ble_eq_true rfl)) d_PM_totalsOf_83 ⟨(Nat.le_of_ble_eq_true rfl), (Nat.le_of_ble_eq_true rfl)⟩) hP hD hS hA (fun L6 f5 H locs hw hP hD hS => ?_)
        have ef5 : f5 = va_up (va_up f1 to2 (toE sa2 (t_add (.inl (ia, ib)) F.2.2 T))) sa2 (saE G (t_add (.inl (ia, ib)) F.2.2 T)) := (Prod.mk.inj hw).2
        have eL6 : L6 = (L ++ [to2] ++ [sa2]) := (Prod.mk.inj hw).1
        subst L6
        obtain ⟨f7, ef7⟩ : ∃ y, y = va_up f1 to2 (toE sa2 (t_add (.inl (ia, ib)) F.2.2 T)) := ⟨_, rfl⟩
        rw [← ef7] at ef5
        refine lv_iinc (v := nI (k + 1)) (lv' := [(5, .int (nI (k + 1))), (0, .ref pm), (1, .ref fr2), (2, .int (nI a)), (3, .int (nI b)), (4, .ref to2), (6, .ref x0)]) hx hb d_PM_totalsOf_86 hl (k := 5) rfl (nI_1 k) (by decide) rfl (fun ls hl => ?_)
        refine lv_goto (tgt := 53) hx hb d_PM_totalsOf_89 (by decide) ?_
        exact ih (k + 1) _ f5 H locs ls (by omega) hT1 (by rw [ef5, va_up_ne _ _ (Ne.symm hn3), ef7]; exact va_up_self _ _ _) (by rw [ef5]; exact va_up_self _ _ _) (fun z h1 h2 => by rw [ef5, va_up_ne _ _ h2, ef7, va_up_ne _ _ h1]; exact hkeep z h1 h2) hP hD hS (lv_sub hl [1, 2, 3, 4, 5, 0, 6] rfl)
      · refine va_castY (C := "PageMaker$Glue") hx hb hown (htb _ tw_404) (hz.1 _ tn_885) (pz_recv hK hP (ci := 6) rfl (hsub _ hxL) hfx1) d_PM_totalsOf_77 ?_
        refine lv_aload hx hb d_PM_totalsOf_80 (lv_at hl 4 rfl) ?_
        refine lv_aload_n hx hb d_PM_totalsOf_82 rfl (lv_at hl 1 rfl) ?_
        refine pz_cv (va_runU (C := "PageMaker$Glue") (As := [.ref to2, .ref fr2]) (rest := []) ⟨hx, hb, hml, hown, hts⟩ (ad_glue l G (L ++ [to2] ++ [sa2]) f1 _ x to2 sa2 fr2 T F ia ib io id9 (hsub _ hxL) hfx1 (List.mem_append_left _ (l_in_new _ _)) hto (hsub _ hr2) hfr1 (l_in_new _ _) hsa hok) (va_cwA 2 hts (tb_U tw_465 tw_467 tw_472 tw_473 tw_23 tw_474) rfl rfl rfl (hz.1 _ tn_466) (by decide +kernel) ⟨(Nat.le_of_ble_eq_true rfl), (Nat.le_of_ble_eq_true rfl)⟩) (pz_preV (zz_ok _ _ _) hK hP hD hS hA hz (ci := 6) rfl rfl (hsub _ hxL) hfx1) rfl rfl hl.1 rfl (lv_room (Nat.le_of_ble_eq_true rfl)) d_PM_totalsOf_83 ⟨(Nat.le_of_ble_eq_true rfl), (Nat.le_of_ble_eq_true rfl)⟩) hP hD hS hA (fun L9 f8 H locs hw hP hD hS => ?_)
        have ef8 : f8 = va_up (va_up f1 to2 (toE sa2 (t_add (.inr (.inl (ia, ib, io, id9))) F.2.2 T))) sa2 (saE G (t_add (.inr (.inl (ia, ib, io, id9))) F.2.2 T)) := (Prod.mk.inj hw).2
        have eL9 : L9 = (L ++ [to2] ++ [sa2]) := (Prod.mk.inj hw).1
        subst L9
        obtain ⟨f10, ef10⟩ : ∃ y, y = va_up f1 to2 (toE sa2 (t_add (.inr (.inl (ia, ib, io, id9))) F.2.2 T)) := ⟨_, rfl⟩
        rw [← ef10] at ef8
        refine lv_iinc (v := nI (k + 1)) (lv' := [(5, .int (nI (k + 1))), (0, .ref pm), (1, .ref fr2), (2, .int (nI a)), (3, .int (nI b)), (4, .ref to2), (6, .ref x0)]) hx hb d_PM_totalsOf_86 hl (k := 5) rfl (nI_1 k) (by decide) rfl (fun ls hl => ?_)
        refine lv_goto (tgt := 53) hx hb d_PM_totalsOf_89 (by decide) ?_
        exact ih (k + 1) _ f8 H locs ls (by omega) hT1 (by rw [ef8, va_up_ne _ _ (Ne.symm hn3), ef10]; exact va_up_self _ _ _) (by rw [ef8]; exact va_up_self _ _ _) (fun z h1 h2 => by rw [ef8, va_up_ne _ _ h2, ef10, va_up_ne _ _ h1]; exact hkeep z h1 h2) hP hD hS (lv_sub hl [1, 2, 3, 4, 5, 0, 6] rfl)
      · refine va_castY (C := "PageMaker$Kern") hx hb hown (htb _ tw_404) (hz.1 _ tn_886) (pz_recv hK hP (ci := 7) rfl (hsub _ hxL) hfx1) d_PM_totalsOf_77 ?_
        refine lv_aload hx hb d_PM_totalsOf_80 (lv_at hl 4 rfl) ?_
        refine lv_aload_n hx hb d_PM_totalsOf_82 rfl (lv_at hl 1 rfl) ?_
        refine pz_cv (va_runU (C := "PageMaker$Kern") (As := [.ref to2, .ref fr2]) (rest := []) ⟨hx, hb, hml, hown, hts⟩ (ad_kern l G (L ++ [to2] ++ [sa2]) f1 _ x to2 sa2 fr2 T F ia (hsub _ hxL) hfx1 (List.mem_append_left _ (l_in_new _ _)) hto (l_in_new _ _) hsa) (va_cwA 2 hts (tb_U tw_465 tw_467 tw_476 tw_477 tw_24 tw_478) rfl rfl rfl (hz.1 _ tn_466) (by decide +kernel) ⟨(Nat.le_of_ble_eq_true rfl), (Nat.le_of_ble_eq_true rfl)⟩) (pz_preV (zz_ok _ _ _) hK hP hD hS hA hz (ci := 7) rfl rfl (hsub _ hxL) hfx1) rfl rfl hl.1 rfl (lv_room (Nat.le_of_ble_eq_true rfl)) d_PM_totalsOf_83 ⟨(Nat.le_of_ble_eq_true rfl), (Nat.le_of_ble_eq_true rfl)⟩) hP hD hS hA (fun L12 f11 H locs hw hP hD hS => ?_)
        have ef11 : f11 = va_up (va_up f1 to2 (toE sa2 (t_add (.inr (.inr (.inl ia))) F.2.2 T))) sa2 (saE G (t_add (.inr (.inr (.inl ia))) F.2.2 T)) := (Prod.mk.inj hw).2
        have eL12 : L12 = (L ++ [to2] ++ [sa2]) := (Prod.mk.inj hw).1
        subst L12
        obtain ⟨f13, ef13⟩ : ∃ y, y = va_up f1 to2 (toE sa2 (t_add (.inr (.inr (.inl ia))) F.2.2 T)) := ⟨_, rfl⟩
        rw [← ef13] at ef11
        refine lv_iinc (v := nI (k + 1)) (lv' := [(5, .int (nI (k + 1))), (0, .ref pm), (1, .ref fr2), (2, .int (nI a)), (3, .int (nI b)), (4, .ref to2), (6, .ref x0)]) hx hb d_PM_totalsOf_86 hl (k := 5) rfl (nI_1 k) (by decide) rfl (fun ls hl => ?_)
        refine lv_goto (tgt := 53) hx hb d_PM_totalsOf_89 (by decide) ?_
        exact ih (k + 1) _ f11 H locs ls (by omega) hT1 (by rw [ef11, va_up_ne _ _ (Ne.symm hn3), ef13]; exact va_up_self _ _ _) (by rw [ef11]; exact va_up_self _ _ _) (fun z h1 h2 => by rw [ef11, va_up_ne _ _ h2, ef13, va_up_ne _ _ h1]; exact hkeep z h1 h2) hP hD hS (lv_sub hl [1, 2, 3, 4, 5, 0, 6] rfl)
      · refine va_castY (C := "PageMaker$Penalty") hx hb hown (htb _ tw_404) (hz.1 _ tn_887) (pz_recv hK hP (ci := 8) rfl (hsub _ hxL) hfx1) d_PM_totalsOf_77 ?_
        refine lv_aload hx hb d_PM_totalsOf_80 (lv_at hl 4 rfl) ?_
        refine lv_aload_n hx hb d_PM_totalsOf_82 rfl (lv_at hl 1 rfl) ?_
        refine pz_cv (va_runU (C := "PageMaker$Penalty") (As := [.ref to2, .ref fr2]) (rest := []) ⟨hx, hb, hml, hown, hts⟩ (ad_pen l G (L ++ [to2] ++ [sa2]) f1 _ x to2 sa2 fr2 T F ia hto hsa) (va_cwA 2 hts (tb_U tw_465 tw_467 tw_480 tw_481 tw_25 tw_482) rfl rfl rfl (hz.1 _ tn_466) (by decide +kernel) ⟨(Nat.le_of_ble_eq_true rfl), (Nat.le_of_ble_eq_true rfl)⟩) (pz_preV (zz_ok _ _ _) hK hP hD hS hA hz (ci := 8) rfl rfl (hsub _ hxL) hfx1) rfl rfl hl.1 rfl (lv_room (Nat.le_of_ble_eq_true rfl)) d_PM_totalsOf_83 ⟨(Nat.le_of_ble_eq_true rfl), (Nat.le_of_ble_eq_true rfl)⟩) hP hD hS hA (fun L15 f14 H locs hw hP hD hS => ?_)
        have ef14 : f14 = va_up (va_up f1 to2 (toE sa2 (t_add (.inr (.inr (.inr ia))) F.2.2 T))) sa2 (saE G (t_add (.inr (.inr (.inr ia))) F.2.2 T)) := (Prod.mk.inj hw).2
        have eL15 : L15 = (L ++ [to2] ++ [sa2]) := (Prod.mk.inj hw).1
        subst L15
        obtain ⟨f16, ef16⟩ : ∃ y, y = va_up f1 to2 (toE sa2 (t_add (.inr (.inr (.inr ia))) F.2.2 T)) := ⟨_, rfl⟩
        rw [← ef16] at ef14
        refine lv_iinc (v := nI (k + 1)) (lv' := [(5, .int (nI (k + 1))), (0, .ref pm), (1, .ref fr2), (2, .int (nI a)), (3, .int (nI b)), (4, .ref to2), (6, .ref x0)]) hx hb d_PM_totalsOf_86 hl (k := 5) rfl (nI_1 k) (by decide) rfl (fun ls hl => ?_)
        refine lv_goto (tgt := 53) hx hb d_PM_totalsOf_89 (by decide) ?_
        exact ih (k + 1) _ f14 H locs ls (by omega) hT1 (by rw [ef14, va_up_ne _ _ (Ne.symm hn3), ef16]; exact va_up_self _ _ _) (by rw [ef14]; exact va_up_self _ _ _) (fun z h1 h2 => by rw [ef14, va_up_ne _ _ h2, ef16, va_up_ne _ _ h1]; exact hkeep z h1 h2) hP hD hS (lv_sub hl [1, 2, 3, 4, 5, 0, 6] rfl)
