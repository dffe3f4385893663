/-! PageMaker: endedPage, page, stands, where, open -/
abbrev mJ (l : Launch) (y : MethodName) (ws : List Cond) (rm : Room) (G : gG) (L : List Nat) (f : Nat → va_E) (sz : Nat) (av : List Value) (mc ms : Nat) (post : Int64 → pz_U → Prop) : Prop := Met l y ws rm (mP G L f sz av) (va_Ql post (pz_B (gD G) cls9 (gT G) (mA L f sz)) (mA L f sz)) mc ms (mA L f sz)
/-- what page answers -/
def pg_v (g : Pg) (n : Nat) : Int64 := match n with
  | 0 => g.1.toInt64
  | 1 => g.2.1.toInt64
  | 2 => g.2.2.1.toInt64
  | 3 => g.2.2.2.2.2.1
  | 4 => g.2.2.2.2.2.2.1.toInt64
  | 5 => g.2.2.2.2.2.2.2
  | 6 => g.2.2.2.1.toInt64
  | _ => g.2.2.2.2.1.toInt64
/-- what open answers -/
def op_v (P : Op) (T : Tt) (n : Nat) : Int64 := match n with
  | 0 => P.1.toInt64
  | 1 => T.1
  | 2 => T.2.1
  | 3 => T.2.2.2 (0 : Int32).toNatClampNeg
  | 4 => T.2.2.2 (1 : Int32).toNatClampNeg
  | 5 => T.2.2.2 (2 : Int32).toNatClampNeg
  | 6 => T.2.2.2 (3 : Int32).toNatClampNeg
  | 7 => P.2.2.1.toInt64
  | 8 => P.2.2.2.1.toInt64
  | _ => T.2.2.1
/-- shareOf, and what stands answers -/
def sh_v (g : Pg) (T : Tt) : Int64 := if 0 < g.2.2.2.2.2.1 then k_prop (T.2.2.2 g.2.2.2.2.2.2.1.toNatClampNeg) g.2.2.2.2.2.1 g.2.2.2.2.2.2.2 else -k_prop T.2.2.1 (if g.2.2.2.2.2.2.2 < -g.2.2.2.2.2.1 then g.2.2.2.2.2.2.2 else -g.2.2.2.2.2.1) g.2.2.2.2.2.2.2
def st_v (g : Pg) (T : Tt) (h : Int32) : Int64 := T.1 + T.2.1 + h.toInt64 + sh_v g T
def st_ok (its : List It) (pgs : List (Fr × Pg)) (k i : Int32) : Prop := ∃ (kk ii : Nat) (pg : Fr × Pg) (c0 c1 : Int32), k = nI kk ∧ i = nI ii ∧ pgs[kk]? = some pg ∧ its[ii]? = some (.inl (c0, c1)) ∧ pg.2.1 ≤ i ∧ i < pg.2.2.1
/-- what where answers: the first page that holds i -/
def wh_v : List (Fr × Pg) → Int32 → Nat → Int32
  | [], _, _ => (-1)
  | pg :: r, i, k => if pg.2.1 ≤ i ∧ i < pg.2.2.1 then nI k else wh_v r i (k + 1)
theorem k_idx {k : Int32} {n : Nat} (h : 0 ≤ k ∧ k < nI n) (hn : n < 2 ^ 31) : ∃ j, j < n ∧ k = nI j := by
  obtain ⟨j, hj, rfl⟩ := nI_of (i32_nlt h.1)
  exact ⟨j, (nI_ltI hj hn).mp h.2, rfl⟩
theorem k_out8 {n : Int32} (h : ¬ (0 ≤ n ∧ n < 8)) : n.toInt < 0 ∨ 7 < n.toInt := by
  rw [Int32.le_iff_toInt_le, Int32.lt_iff_toInt_lt, Int32.toInt_zero, show (8 : Int32).toInt = 8 by decide] at h
  omega
theorem k_out10 {n : Int32} (h : ¬ (0 ≤ n ∧ n < 10)) : n.toInt < 0 ∨ 9 < n.toInt := by
  rw [Int32.le_iff_toInt_le, Int32.lt_iff_toInt_lt, Int32.toInt_zero, show (10 : Int32).toInt = 10 by decide] at h
  omega
theorem rx_grow2 {G : gG} {L : List Nat} {f f1 : Nat → va_E} {pm al ad el ed fr op to sa fo q r : Nat} {xs ys : List Nat} {S : CS} (h : RX G L f pm al ad el ed fr op to sa fo xs ys S) (hq : q ∉ L) (hr : r ∉ L) (hk : ∀ z, z ≠ q → z ≠ r → f1 z = f z) : RX G (L ++ [q] ++ [r]) f1 pm al ad el ed fr op to sa fo xs ys S := by
  obtain ⟨a1, a2, a3, a4, a5, a6, a7, a8, a9, b1, b2, b3, b4, b5, b6, b7, b8, b9⟩ := h
  have hsub : ∀ z, z ∈ L → z ∈ L ++ [q] ++ [r] := fun z hz => List.mem_append_left _ (List.mem_append_left _ hz)
  have kp : ∀ z, z ∈ L → f1 z = f z := fun z hz => hk z (Ne.symm (pz_nef hq hz)) (Ne.symm (pz_nef hr hz))
  exact ⟨hsub _ a1, (kp _ a1).trans a2, lr_keep2 a3 hsub (kp _ (lr_tg a3).1) (fun _ h _ => kp _ h), lr_keep2 a4 hsub (kp _ (lr_tg a4).1) (fun _ h _ => kp _ h), a5, a6, xr_keep a7 hsub (fun z hz _ _ => kp z hz), yr_keep a8 hsub (fun z hz _ => kp z hz), hsub _ a9, (kp _ a9).trans b1, hsub _ b2, (kp _ b2).trans b3, hsub _ b4, (kp _ b4).trans b5, hsub _ b6, (kp _ b6).trans b7, hsub _ b8, (kp _ b8).trans b9⟩
set_option maxHeartbeats 4000000 in
set_option maxRecDepth 100000 in
/-- endedPage(k) -/
theorem c_PM_endedPage (l : Launch) (G : gG) (L : List Nat) (f : Nat → va_E) (sz : Nat) (pm al ad el ed fr op to sa fo : Nat) (xs ys : List Nat) (its : List It) (F9 : Fr) (pgs : List (Fr × Pg)) (F : Fr) (P : Op) (T : Tt) (k y : Nat) (hR : RX G L f pm al ad el ed fr op to sa fo xs ys (its, F9, pgs, F, P, T)) (hpg : pgs.length ≤ 512) (hy9 : ys[k]? = some y) : sQ l y_PM_endedPage w_PM_endedPage ({ frames := 3, cells := 0, slots := 0, locals := 64 }) G L f sz [.ref pm, .int (nI k)] (fun r => r = some y) := by
  refine pz_met (cc := prog_1_method_16_code) (maxL := 2) (ret := (some (.object "PageMaker$EndedPage"))) (by decide) rfl (Nat.le_of_ble_eq_true rfl) ?_
  intro p e s m below meth c ls hx hb hr hml hts hown hlocks hin hsz hK hP hD hS hA hz hl
  have htb : ∀ w ∈ TB, w.before _ s = true := fun w h => hts w (List.mem_cons_of_mem _ h)
  have hl : lv_has ls 2 [(0, .ref pm), (1, .int (nI k))] := hl
  obtain ⟨hp, hfp, h_al, h_el, hne9, hdd, hX, hY, hr9, hfr, ho, hfo, ht, hft, hs9, hsa, hr8, hfof⟩ := id hR
  have hX : XR L f xs its := hX
  have hY : YR L f ys pgs := hY
  have hfr : f fr = frE F9 := hfr
  have hfo : f op = opE to fo P := hfo
  have hft : f to = toE sa T := hft
  have hsa : f sa = saE G T := hsa
  have hfof : f fo = frE F := hfof
  obtain ⟨mo_al, hm_al, hc_al, -⟩ := id h_al
  obtain ⟨mo_el, hm_el, hc_el, -⟩ := id h_el
  have hyl : ys.length = pgs.length := hY.1
  have hk1 : k < ys.length := (List.getElem?_eq_some_iff.mp hy9).1
  obtain ⟨hyL, z9, hzL, hfz, hfy⟩ := hY.2 k y _ hy9 (List.getElem?_eq_getElem (by omega))
  refine lv_iload_n hx hb d_PM_endedPage_0 rfl (lv_at hl 1 rfl) ?_
  refine lv_if_lt (tgt := 15) hx hb d_PM_endedPage_1 (by decide) (fun c0 => absurd c0 (nI_pos (by omega))) (fun _ => ?_)
  refine lv_iload_n hx hb d_PM_endedPage_4 rfl (lv_at hl 1 rfl) ?_
  refine lv_aload_n hx hb d_PM_endedPage_5 rfl (lv_at hl 0 rfl) ?_
  refine pz_get (ci := 4) (C := "PageMaker") (T := T_PM) (N := 4) hx hb htb in_PM hown hK hP hp hfp rfl 1 (by decide) (htb _ tw_161) (fun _ h9 => h9) rfl d_PM_endedPage_6 ?_
  refine vp_callSi (va_Run.run (va_runV (As := []) (rest := [.int (nI k)]) ⟨hx, hb, hml, hown, hts⟩ (al_size l G L f _ el ed ys h_el) (cwV 0 hts (tb_V tw_177 tw_178 tw_179 tw_4 tw_180) rfl rfl rfl (by decide +kernel) ⟨(Nat.le_of_ble_eq_true rfl), (Nat.le_of_ble_eq_true rfl)⟩) (pz_preV (zz_ok _ _ _) hK hP hD hS hA hz (ci := 0) rfl rfl hm_el hc_el) rfl rfl hl.1 rfl (lv_room (Nat.le_of_ble_eq_true rfl)) d_PM_endedPage_9 ⟨(Nat.le_of_ble_eq_true rfl), (Nat.le_of_ble_eq_true rfl)⟩)) (fun r1 hw => ?_)
  have hw : r1 = nI ys.length := hw
  subst r1
  refine lv_icmp_lt (tgt := 25) hx hb d_PM_endedPage_12 (by decide) (fun _ => ?_) (fun c0 => absurd (nI_lt hk1 (by omega)) c0)
  refine lv_aload_n hx hb d_PM_endedPage_25 rfl (lv_at hl 0 rfl) ?_
  refine pz_get (ci := 4) (C := "PageMaker") (T := T_PM) (N := 4) hx hb htb in_PM hown hK hP hp hfp rfl 1 (by decide) (htb _ tw_161) (fun _ h9 => h9) rfl d_PM_endedPage_26 ?_
  refine lv_iload_n hx hb d_PM_endedPage_29 rfl (lv_at hl 1 rfl) ?_
  refine va_csq (va_Run.run (va_runV (As := [.int (nI k)]) (rest := []) ⟨hx, hb, hml, hown, hts⟩ (al_get l G L f _ el ed ys k y h_el hy9) (cwV 1 hts (tb_V tw_390 tw_391 tw_392 tw_4 tw_393) rfl rfl rfl (by decide +kernel) ⟨(Nat.le_of_ble_eq_true rfl), (Nat.le_of_ble_eq_true rfl)⟩) (pz_preV (zz_ok _ _ _) hK hP hD hS hA hz (ci := 0) rfl rfl hm_el hc_el) rfl rfl hl.1 rfl (lv_room (Nat.le_of_ble_eq_true rfl)) d_PM_endedPage_30 ⟨(Nat.le_of_ble_eq_true rfl), (Nat.le_of_ble_eq_true rfl)⟩)) (fun r2 hw => ?_)
  have hw : r2 = some y := hw
  subst hw
  refine W.eq (g2 := F0 m 33 ls [.ref y]) rfl ?_
  refine va_castE hx hb hown (htb _ tw_446) (pz_recv hK hP (ci := 9) rfl hyL hfy) d_PM_endedPage_33 ?_
  exact pz_aretS (r := some y) hx hb hr (Or.inl ⟨_, rfl⟩) hlocks rfl d_PM_endedPage_36
set_option maxHeartbeats 4000000 in
set_option maxRecDepth 100000 in
/-- endedPage throws -/
theorem x_PM_endedPage (l : Launch) (hl9 : l.stackTraces = false) (G : gG) (L : List Nat) (f : Nat → va_E) (sz : Nat) (pm al ad el ed fr op to sa fo : Nat) (xs ys : List Nat) (its : List It) (F9 : Fr) (pgs : List (Fr × Pg)) (F : Fr) (P : Op) (T : Tt) (k : Int32) (hR : RX G L f pm al ad el ed fr op to sa fo xs ys (its, F9, pgs, F, P, T)) (hno : ¬ (0 ≤ k ∧ k < nI ys.length)) : mX l y_PM_endedPage w_PM_endedPage ({ frames := 6, cells := 1, slots := 6, locals := 82 }) G L f sz [.ref pm, .int k] "java/lang/IndexOutOfBoundsException" := by
  refine pz_metX (cc := prog_1_method_16_code) (maxL := 2) (ret := (some (.object "PageMaker$EndedPage"))) (by decide) rfl (Nat.le_of_ble_eq_true rfl) ?_
  intro p e s m below meth c ls hx hb hr hml hts hown hlocks hnt hsz hK hP hD hS hA hz hl
  have htb : ∀ w ∈ TB, w.before _ s = true := fun w h => hts w (List.mem_cons_of_mem _ h)
  have hl : lv_has ls 2 [(0, .ref pm), (1, .int k)] := hl
  obtain ⟨hp, hfp, h_al, h_el, hne9, hdd, hX, hY, hr9, hfr, ho, hfo, ht, hft, hs9, hsa, hr8, hfof⟩ := id hR
  have hX : XR L f xs its := hX
  have hY : YR L f ys pgs := hY
  have hfr : f fr = frE F9 := hfr
  have hfo : f op = opE to fo P := hfo
  have hft : f to = toE sa T := hft
  have hsa : f sa = saE G T := hsa
  have hfof : f fo = frE F := hfof
  obtain ⟨mo_al, hm_al, hc_al, -⟩ := id h_al
  obtain ⟨mo_el, hm_el, hc_el, -⟩ := id h_el
  refine lv_iload_n hx hb d_PM_endedPage_0 rfl (lv_at hl 1 rfl) ?_
  refine lv_if_lt (tgt := 15) hx hb d_PM_endedPage_1 (by decide) (fun c_1 => ?_) (fun c_1 => ?_)
  · exact pz_thr 193 "no such page" 127 131 hx hb hl9 hown (by decide +kernel) htb hz hnt hlocks hK hP hD hS tw_615 tw_26 at_IOB1 at_IOB2 at_IOB3 (by decide +kernel) hml hl.1 d_PM_endedPage_15 d_PM_endedPage_18 d_PM_endedPage_19 d_PM_endedPage_21 d_PM_endedPage_24 (Nat.le_of_ble_eq_true rfl) (Nat.le_of_ble_eq_true rfl) (Nat.le_of_ble_eq_true rfl) (Nat.le_of_ble_eq_true rfl) (Nat.le_of_ble_eq_true rfl) (Nat.le_of_ble_eq_true rfl)
  · refine lv_iload_n hx hb d_PM_endedPage_4 rfl (lv_at hl 1 rfl) ?_
    refine lv_aload_n hx hb d_PM_endedPage_5 rfl (lv_at hl 0 rfl) ?_
    refine pz_get (ci := 4) (C := "PageMaker") (T := T_PM) (N := 4) hx hb htb in_PM hown hK hP hp hfp rfl 1 (by decide) (htb _ tw_161) (fun _ h9 => h9) rfl d_PM_endedPage_6 ?_
    refine vp_callSi (va_Run.run (va_runV (As := []) (rest := [.int k]) ⟨hx, hb, hml, hown, hts⟩ (al_size l G L f _ el ed ys h_el) (cwV 0 hts (tb_V tw_177 tw_178 tw_179 tw_4 tw_180) rfl rfl rfl (by decide +kernel) ⟨(Nat.le_of_ble_eq_true rfl), (Nat.le_of_ble_eq_true rfl)⟩) (pz_preV (zz_ok _ _ _) hK hP hD hS hA hz (ci := 0) rfl rfl hm_el hc_el) rfl rfl hl.1 rfl (lv_room (Nat.le_of_ble_eq_true rfl)) d_PM_endedPage_9 ⟨(Nat.le_of_ble_eq_true rfl), (Nat.le_of_ble_eq_true rfl)⟩)) (fun r2 hw => ?_)
    have hw : r2 = nI ys.length := hw
    subst r2
    refine lv_icmp_lt (tgt := 25) hx hb d_PM_endedPage_12 (by decide) (fun c_3 => ?_) (fun c_3 => ?_)
    · exact absurd ⟨i32_le c_1, c_3⟩ hno
    · exact pz_thr 193 "no such page" 127 131 hx hb hl9 hown (by decide +kernel) htb hz hnt hlocks hK hP hD hS tw_615 tw_26 at_IOB1 at_IOB2 at_IOB3 (by decide +kernel) hml hl.1 d_PM_endedPage_15 d_PM_endedPage_18 d_PM_endedPage_19 d_PM_endedPage_21 d_PM_endedPage_24 (Nat.le_of_ble_eq_true rfl) (Nat.le_of_ble_eq_true rfl) (Nat.le_of_ble_eq_true rfl) (Nat.le_of_ble_eq_true rfl) (Nat.le_of_ble_eq_true rfl) (Nat.le_of_ble_eq_true rfl)
set_option maxHeartbeats 4000000 in
set_option maxRecDepth 100000 in
/-- page(k, n) -/
theorem c_PM_page (l : Launch) (G : gG) (L : List Nat) (f : Nat → va_E) (sz : Nat) (pm al ad el ed fr op to sa fo : Nat) (xs ys : List Nat) (its : List It) (F9 : Fr) (pgs : List (Fr × Pg)) (F : Fr) (P : Op) (T : Tt) (k y n : Nat) (hR : RX G L f pm al ad el ed fr op to sa fo xs ys (its, F9, pgs, F, P, T)) (hpg : pgs.length ≤ 512) (hy9 : ys[k]? = some y) (pg : Fr × Pg) (hp9 : pgs[k]? = some pg) (hn : n < 8) : sJ l y_PM_page w_PM_page ({ frames := 4, cells := 0, slots := 0, locals := 85 }) G L f sz [.ref pm, .int (nI k), .int (nI n)] (fun r => r = pg_v pg.2 n) := by
  refine pz_met (cc := prog_1_method_9_code) (maxL := 4) (ret := (some .long)) (by decide) rfl (Nat.le_of_ble_eq_true rfl) ?_
  intro p e s m below meth c ls hx hb hr hml hts hown hlocks hin hsz hK hP hD hS hA hz hl
  have htb : ∀ w ∈ TB, w.before _ s = true := fun w h => hts w (List.mem_cons_of_mem _ h)
  have hl : lv_has ls 4 [(0, .ref pm), (1, .int (nI k)), (2, .int (nI n))] := hl
  obtain ⟨hp, hfp, h_al, h_el, hne9, hdd, hX, hY, hr9, hfr, ho, hfo, ht, hft, hs9, hsa, hr8, hfof⟩ := id hR
  have hX : XR L f xs its := hX
  have hY : YR L f ys pgs := hY
  have hfr : f fr = frE F9 := hfr
  have hfo : f op = opE to fo P := hfo
  have hft : f to = toE sa T := hft
  have hsa : f sa = saE G T := hsa
  have hfof : f fo = frE F := hfof
  obtain ⟨mo_al, hm_al, hc_al, -⟩ := id h_al
  obtain ⟨mo_el, hm_el, hc_el, -⟩ := id h_el
  obtain ⟨hyL, z9, hzL, hfz, hfy⟩ := hY.2 k y _ hy9 hp9
  refine lv_aload_n hx hb d_PM_page_0 rfl (lv_at hl 0 rfl) ?_
  refine lv_iload_n hx hb d_PM_page_1 rfl (lv_at hl 1 rfl) ?_
  refine va_csq (va_Run.run (va_runV (As := [.int (nI k)]) (rest := []) ⟨hx, hb, hml, hown, hts⟩ (c_PM_endedPage l G L f _ pm al ad el ed fr op to sa fo xs ys its F9 pgs F P T k y hR hpg hy9) (cwV 1 hts (tb_V tw_611 tw_613 tp_12 tw_1 tw_614) rfl rfl rfl (by decide +kernel) ⟨(Nat.le_of_ble_eq_true rfl), (Nat.le_of_ble_eq_true rfl)⟩) (pz_preV (zz_ok _ _ _) hK hP hD hS hA hz (ci := 4) rfl rfl hp hfp) rfl rfl hl.1 rfl (lv_room (Nat.le_of_ble_eq_true rfl)) d_PM_page_2 ⟨(Nat.le_of_ble_eq_true rfl), (Nat.le_of_ble_eq_true rfl)⟩)) (fun r1 hw => ?_)
  have hw : r1 = some y := hw
  subst hw
  refine W.eq (g2 := F0 m 5 ls [.ref y]) rfl ?_
  refine lv_astore_n (lv' := [(3, .ref y), (0, .ref pm), (1, .int (nI k)), (2, .int (nI n))]) hx hb d_PM_page_5 rfl hl (by decide) rfl (fun ls hl => ?_)
  refine lv_iload_n hx hb d_PM_page_6 rfl (lv_at hl 3 rfl) ?_
  rcases (show n = 0 ∨ n = 1 ∨ n = 2 ∨ n = 3 ∨ n = 4 ∨ n = 5 ∨ n = 6 ∨ n = 7 by omega) with rfl | rfl | rfl | rfl | rfl | rfl | rfl | rfl
  · refine lv_tableIn (x := 0) (tgt := 52) hx hb d_PM_page_7 (by decide) (by decide) rfl (by decide) ?_
    refine lv_aload_n hx hb d_PM_page_52 rfl (lv_at hl 0 rfl) ?_
    refine pz_get (ci := 9) (C := "PageMaker$EndedPage") (T := T_EP) (N := 9) hx hb htb in_EP hown hK hP hyL hfy rfl 1 (by decide) (htb _ tw_491) (fun _ h9 => h9) rfl d_PM_page_53 ?_
    refine lv_i2l hx hb d_PM_page_56 rfl ?_
    exact pz_lretS hx hb hr hlocks rfl d_PM_page_57
  · refine lv_tableIn (x := 1) (tgt := 58) hx hb d_PM_page_7 (by decide) (by decide) rfl (by decide) ?_
    refine lv_aload_n hx hb d_PM_page_58 rfl (lv_at hl 0 rfl) ?_
    refine pz_get (ci := 9) (C := "PageMaker$EndedPage") (T := T_EP) (N := 9) hx hb htb in_EP hown hK hP hyL hfy rfl 2 (by decide) (htb _ tw_493) (fun _ h9 => h9) rfl d_PM_page_59 ?_
    refine lv_i2l hx hb d_PM_page_62 rfl ?_
    exact pz_lretS hx hb hr hlocks rfl d_PM_page_63
  · refine lv_tableIn (x := 2) (tgt := 64) hx hb d_PM_page_7 (by decide) (by decide) rfl (by decide) ?_
    refine lv_aload_n hx hb d_PM_page_64 rfl (lv_at hl 0 rfl) ?_
    refine pz_get (ci := 9) (C := "PageMaker$EndedPage") (T := T_EP) (N := 9) hx hb htb in_EP hown hK hP hyL hfy rfl 3 (by decide) (htb _ tw_495) (fun _ h9 => h9) rfl d_PM_page_65 ?_
    refine lv_i2l hx hb d_PM_page_68 rfl ?_
    exact pz_lretS hx hb hr hlocks rfl d_PM_page_69
  · refine lv_tableIn (x := 3) (tgt := 70) hx hb d_PM_page_7 (by decide) (by decide) rfl (by decide) ?_
    refine lv_aload_n hx hb d_PM_page_70 rfl (lv_at hl 0 rfl) ?_
    refine pz_get (ci := 9) (C := "PageMaker$EndedPage") (T := T_EP) (N := 9) hx hb htb in_EP hown hK hP hyL hfy rfl 6 (by decide) (htb _ tw_501) (fun _ h9 => h9) rfl d_PM_page_71 ?_
    exact pz_lretS hx hb hr hlocks rfl d_PM_page_74
  · refine lv_tableIn (x := 4) (tgt := 75) hx hb d_PM_page_7 (by decide) (by decide) rfl (by decide) ?_
    refine lv_aload_n hx hb d_PM_page_75 rfl (lv_at hl 0 rfl) ?_
    refine pz_get (ci := 9) (C := "PageMaker$EndedPage") (T := T_EP) (N := 9) hx hb htb in_EP hown hK hP hyL hfy rfl 7 (by decide) (htb _ tw_503) (fun _ h9 => h9) rfl d_PM_page_76 ?_
    refine lv_i2l hx hb d_PM_page_79 rfl ?_
    exact pz_lretS hx hb hr hlocks rfl d_PM_page_80
  · refine lv_tableIn (x := 5) (tgt := 81) hx hb d_PM_page_7 (by decide) (by decide) rfl (by decide) ?_
    refine lv_aload_n hx hb d_PM_page_81 rfl (lv_at hl 0 rfl) ?_
    refine pz_get (ci := 9) (C := "PageMaker$EndedPage") (T := T_EP) (N := 9) hx hb htb in_EP hown hK hP hyL hfy rfl 8 (by decide) (htb _ tw_505) (fun _ h9 => h9) rfl d_PM_page_82 ?_
    exact pz_lretS hx hb hr hlocks rfl d_PM_page_85
  · refine lv_tableIn (x := 6) (tgt := 86) hx hb d_PM_page_7 (by decide) (by decide) rfl (by decide) ?_
    refine lv_aload_n hx hb d_PM_page_86 rfl (lv_at hl 0 rfl) ?_
    refine pz_get (ci := 9) (C := "PageMaker$EndedPage") (T := T_EP) (N := 9) hx hb htb in_EP hown hK hP hyL hfy rfl 4 (by decide) (htb _ tw_497) (fun _ h9 => h9) rfl d_PM_page_87 ?_
    refine lv_i2l hx hb d_PM_page_90 rfl ?_
    exact pz_lretS hx hb hr hlocks rfl d_PM_page_91
  · refine lv_tableIn (x := 7) (tgt := 92) hx hb d_PM_page_7 (by decide) (by decide) rfl (by decide) ?_
    refine lv_aload_n hx hb d_PM_page_92 rfl (lv_at hl 0 rfl) ?_
    refine pz_get (ci := 9) (C := "PageMaker$EndedPage") (T := T_EP) (N := 9) hx hb htb in_EP hown hK hP hyL hfy rfl 5 (by decide) (htb _ tw_499) (fun _ h9 => h9) rfl d_PM_page_93 ?_
    refine lv_i2l hx hb d_PM_page_96 rfl ?_
    exact pz_lretS hx hb hr hlocks rfl d_PM_page_97
set_option maxHeartbeats 4000000 in
set_option maxRecDepth 100000 in
/-- page throws -/
theorem x_PM_page (l : Launch) (hl9 : l.stackTraces = false) (G : gG) (L : List Nat) (f : Nat → va_E) (sz : Nat) (pm al ad el ed fr op to sa fo : Nat) (xs ys : List Nat) (its : List It) (F9 : Fr) (pgs : List (Fr × Pg)) (F : Fr) (P : Op) (T : Tt) (k n : Int32) (hR : RX G L f pm al ad el ed fr op to sa fo xs ys (its, F9, pgs, F, P, T)) (hpg : pgs.length ≤ 512) (hno : ¬ ((0 ≤ k ∧ k < nI pgs.length) ∧ 0 ≤ n ∧ n < 8)) : mX l y_PM_page w_PM_page ({ frames := 7, cells := 1, slots := 6, locals := 103 }) G L f sz [.ref pm, .int k, .int n] "java/lang/IndexOutOfBoundsException" := by
  refine pz_metX (cc := prog_1_method_9_code) (maxL := 4) (ret := (some .long)) (by decide) rfl (Nat.le_of_ble_eq_true rfl) ?_
  intro p e s m below meth c ls hx hb hr hml hts hown hlocks hnt hsz hK hP hD hS hA hz hl
  have htb : ∀ w ∈ TB, w.before _ s = true := fun w h => hts w (List.mem_cons_of_mem _ h)
  have hl : lv_has ls 4 [(0, .ref pm), (1, .int k), (2, .int n)] := hl
  obtain ⟨hp, hfp, h_al, h_el, hne9, hdd, hX, hY, hr9, hfr, ho, hfo, ht, hft, hs9, hsa, hr8, hfof⟩ := id hR
  have hX : XR L f xs its := hX
  have hY : YR L f ys pgs := hY
  have hfr : f fr = frE F9 := hfr
  have hfo : f op = opE to fo P := hfo
  have hft : f to = toE sa T := hft
  have hsa : f sa = saE G T := hsa
  have hfof : f fo = frE F := hfof
  obtain ⟨mo_al, hm_al, hc_al, -⟩ := id h_al
  obtain ⟨mo_el, hm_el, hc_el, -⟩ := id h_el
  have hyl : ys.length = pgs.length := hY.1
  by_cases hk : 0 ≤ k ∧ k < nI pgs.length
  · obtain ⟨kk, hkk, rfl⟩ := k_idx hk (by omega)
    obtain ⟨y, hy9⟩ : ∃ y, ys[kk]? = some y := ⟨_, List.getElem?_eq_getElem (by omega)⟩
    refine lv_aload_n hx hb d_PM_page_0 rfl (lv_at hl 0 rfl) ?_
    refine lv_iload_n hx hb d_PM_page_1 rfl (lv_at hl 1 rfl) ?_
    refine va_csq (va_Run.run (va_runV (As := [.int (nI kk)]) (rest := []) ⟨hx, hb, hml, hown, hts⟩ (c_PM_endedPage l G L f _ pm al ad el ed fr op to sa fo xs ys its F9 pgs F P T kk y hR hpg hy9) (cwV 1 hts (tb_V tw_611 tw_613 tp_12 tw_1 tw_614) rfl rfl rfl (by decide +kernel) ⟨(Nat.le_of_ble_eq_true rfl), (Nat.le_of_ble_eq_true rfl)⟩) (pz_preV (zz_ok _ _ _) hK hP hD hS hA hz (ci := 4) rfl rfl hp hfp) rfl rfl hl.1 rfl (lv_room (Nat.le_of_ble_eq_true rfl)) d_PM_page_2 ⟨(Nat.le_of_ble_eq_true rfl), (Nat.le_of_ble_eq_true rfl)⟩)) (fun r1 hw => ?_)
    have hw : r1 = some y := hw
    subst hw
    refine W.eq (g2 := F0 m 5 ls [.ref y]) rfl ?_
    refine lv_astore_n (lv' := [(3, .ref y), (0, .ref pm), (1, .int (nI kk)), (2, .int n)]) hx hb d_PM_page_5 rfl hl (by decide) rfl (fun ls hl => ?_)
    refine lv_iload_n hx hb d_PM_page_6 rfl (lv_at hl 3 rfl) ?_
    refine lv_tableOut (tgt := 98) hx hb d_PM_page_7 (k_out8 (fun h => hno ⟨hk, h⟩)) (by decide) ?_
    exact pz_thr 129 "of a page 0 to 7 can be asked" 127 131 hx hb hl9 hown (by decide +kernel) htb hz hnt hlocks hK hP hD hS tw_615 tw_26 at_IOB1 at_IOB2 at_IOB3 (by decide +kernel) hml hl.1 d_PM_page_98 d_PM_page_101 d_PM_page_102 d_PM_page_104 d_PM_page_107 (Nat.le_of_ble_eq_true rfl) (Nat.le_of_ble_eq_true rfl) (Nat.le_of_ble_eq_true rfl) (Nat.le_of_ble_eq_true rfl) (Nat.le_of_ble_eq_true rfl) (Nat.le_of_ble_eq_true rfl)
  · refine lv_aload_n hx hb d_PM_page_0 rfl (lv_at hl 0 rfl) ?_
    refine lv_iload_n hx hb d_PM_page_1 rfl (lv_at hl 1 rfl) ?_
    refine pz_cx (aa := #[]) (vx_runV (As := [.int k]) (rest := []) ⟨hx, hb, hml, hown, hts⟩ (x_PM_endedPage l hl9 G L f _ pm al ad el ed fr op to sa fo xs ys its F9 pgs F P T k hR (by rw [hyl]; exact hk)) (cwV 1 hts (tb_V tw_611 tw_613 tp_12 tw_1 tw_614) rfl rfl rfl (by decide +kernel) ⟨(Nat.le_of_ble_eq_true rfl), (Nat.le_of_ble_eq_true rfl)⟩) (pz_preV (zz_ok _ _ _) hK hP hD hS hA hz (ci := 4) rfl rfl hp hfp) rfl rfl hl.1 rfl (lv_room (Nat.le_of_ble_eq_true rfl)) d_PM_page_2 ⟨(Nat.le_of_ble_eq_true rfl), (Nat.le_of_ble_eq_true rfl)⟩) hP hD hS hA (fun ce q9 H locs hP hD hS h1 h2 h3 => ?_)
    exact pz_out hnt hlocks hK hP hD hS h1 h2 h3 (Nat.le_of_ble_eq_true rfl) (Nat.le_of_ble_eq_true rfl)
set_option maxHeartbeats 4000000 in
set_option maxRecDepth 100000 in
/-- open(n) -/
theorem c_PM_open (l : Launch) (G : gG) (L : List Nat) (f : Nat → va_E) (sz : Nat) (pm al ad el ed fr op to sa fo : Nat) (xs ys : List Nat) (its : List It) (F9 : Fr) (pgs : List (Fr × Pg)) (F : Fr) (P : Op) (T : Tt) (n : Nat) (hR : RX G L f pm al ad el ed fr op to sa fo xs ys (its, F9, pgs, F, P, T)) (hn : n < 10) : sJ l y_PM_open w_PM_open ({ frames := 0, cells := 0, slots := 0, locals := 0 }) G L f sz [.ref pm, .int (nI n)] (fun r => r = op_v P T n) := by
  refine pz_met (cc := prog_1_method_12_code) (maxL := 2) (ret := (some .long)) (by decide) rfl (Nat.le_of_ble_eq_true rfl) ?_
  intro p e s m below meth c ls hx hb hr hml hts hown hlocks hin hsz hK hP hD hS hA hz hl
  have htb : ∀ w ∈ TB, w.before _ s = true := fun w h => hts w (List.mem_cons_of_mem _ h)
  have hl : lv_has ls 2 [(0, .ref pm), (1, .int (nI n))] := hl
  obtain ⟨hp, hfp, h_al, h_el, hne9, hdd, hX, hY, hr9, hfr, ho, hfo, ht, hft, hs9, hsa, hr8, hfof⟩ := id hR
  have hX : XR L f xs its := hX
  have hY : YR L f ys pgs := hY
  have hfr : f fr = frE F9 := hfr
  have hfo : f op = opE to fo P := hfo
  have hft : f to = toE sa T := hft
  have hsa : f sa = saE G T := hsa
  have hfof : f fo = frE F := hfof
  obtain ⟨mo_al, hm_al, hc_al, -⟩ := id h_al
  refine lv_iload_n hx hb d_PM_open_0 rfl (lv_at hl 1 rfl) ?_
  rcases (show n = 0 ∨ n = 1 ∨ n = 2 ∨ n = 3 ∨ n = 4 ∨ n = 5 ∨ n = 6 ∨ n = 7 ∨ n = 8 ∨ n = 9 by omega) with rfl | rfl | rfl | rfl | rfl | rfl | rfl | rfl | rfl | rfl
  · have hl : lv_has ls 2 [(0, .ref pm), (1, .int 0)] := hl
    refine lv_tableIn (x := 0) (tgt := 56) hx hb d_PM_open_1 (by decide) (by decide) rfl (by decide) ?_
    refine lv_aload_n hx hb d_PM_open_56 rfl (lv_at hl 0 rfl) ?_
    refine pz_get (ci := 4) (C := "PageMaker") (T := T_PM) (N := 4) hx hb htb in_PM hown hK hP hp hfp rfl 3 (by decide) (htb _ tw_163) (fun _ h9 => h9) rfl d_PM_open_57 ?_
    refine pz_get (ci := 2) (C := "PageMaker$OpenPage") (T := T_OP) (N := 8) hx hb htb in_OP hown hK hP ho hfo rfl 2 (by decide) (htb _ tw_130) (fun _ h9 => h9) rfl d_PM_open_60 ?_
    refine lv_i2l hx hb d_PM_open_63 rfl ?_
    exact pz_lretS hx hb hr hlocks rfl d_PM_open_64
  · have hl : lv_has ls 2 [(0, .ref pm), (1, .int 1)] := hl
    refine lv_tableIn (x := 1) (tgt := 65) hx hb d_PM_open_1 (by decide) (by decide) rfl (by decide) ?_
    refine lv_aload_n hx hb d_PM_open_65 rfl (lv_at hl 0 rfl) ?_
    refine pz_get (ci := 4) (C := "PageMaker") (T := T_PM) (N := 4) hx hb htb in_PM hown hK hP hp hfp rfl 3 (by decide) (htb _ tw_163) (fun _ h9 => h9) rfl d_PM_open_66 ?_
    refine pz_get (ci := 2) (C := "PageMaker$OpenPage") (T := T_OP) (N := 8) hx hb htb in_OP hown hK hP ho hfo rfl 0 (by decide) (htb _ tw_124) (fun _ h9 => h9) rfl d_PM_open_69 ?_
    refine pz_get (ci := 3) (C := "PageMaker$Totals") (T := T_TO) (N := 4) hx hb htb in_TO hown hK hP ht hft rfl 1 (by decide) (htb _ tw_104) (fun _ h9 => h9) rfl d_PM_open_72 ?_
    exact pz_lretS hx hb hr hlocks rfl d_PM_open_75
  · have hl : lv_has ls 2 [(0, .ref pm), (1, .int 2)] := hl
    refine lv_tableIn (x := 2) (tgt := 76) hx hb d_PM_open_1 (by decide) (by decide) rfl (by decide) ?_
    refine lv_aload_n hx hb d_PM_open_76 rfl (lv_at hl 0 rfl) ?_
    refine pz_get (ci := 4) (C := "PageMaker") (T := T_PM) (N := 4) hx hb htb in_PM hown hK hP hp hfp rfl 3 (by decide) (htb _ tw_163) (fun _ h9 => h9) rfl d_PM_open_77 ?_
    refine pz_get (ci := 2) (C := "PageMaker$OpenPage") (T := T_OP) (N := 8) hx hb htb in_OP hown hK hP ho hfo rfl 0 (by decide) (htb _ tw_124) (fun _ h9 => h9) rfl d_PM_open_80 ?_
    refine pz_get (ci := 3) (C := "PageMaker$Totals") (T := T_TO) (N := 4) hx hb htb in_TO hown hK hP ht hft rfl 2 (by decide) (htb _ tw_107) (fun _ h9 => h9) rfl d_PM_open_83 ?_
    exact pz_lretS hx hb hr hlocks rfl d_PM_open_86
  · have hl : lv_has ls 2 [(0, .ref pm), (1, .int 3)] := hl
    refine lv_tableIn (x := 3) (tgt := 87) hx hb d_PM_open_1 (by decide) (by decide) rfl (by decide) ?_
    refine lv_aload_n hx hb d_PM_open_87 rfl (lv_at hl 0 rfl) ?_
    refine pz_get (ci := 4) (C := "PageMaker") (T := T_PM) (N := 4) hx hb htb in_PM hown hK hP hp hfp rfl 3 (by decide) (htb _ tw_163) (fun _ h9 => h9) rfl d_PM_open_88 ?_
    refine pz_get (ci := 2) (C := "PageMaker$OpenPage") (T := T_OP) (N := 8) hx hb htb in_OP hown hK hP ho hfo rfl 0 (by decide) (htb _ tw_124) (fun _ h9 => h9) rfl d_PM_open_91 ?_
    refine pz_get (ci := 3) (C := "PageMaker$Totals") (T := T_TO) (N := 4) hx hb htb in_TO hown hK hP ht hft rfl 0 (by decide) (htb _ tw_99) (fun _ h9 => h9) rfl d_PM_open_94 ?_
    refine lv_iload_n hx hb d_PM_open_97 rfl (lv_at hl 1 rfl) ?_
    refine lv_iconst (v := 3) hx hb d_PM_open_98 (by decide) ?_
    refine lv_isub hx hb d_PM_open_99 ?_
    refine lv_topi (fun x1 ex1 => ?_)
    have ex1 : x1 = 0 := ex1.trans (rfl)
    subst ex1
    have hin2 : vp_in 0 4 := vp_in_nI (n := 0) (N := 4) (by decide) (by decide)
    refine pz_lald hx hb hK hP 1 hs9 hsa rfl hin2 d_PM_open_100 ?_
    refine lv_topl (fun x3 (ex3 : x3 = T.2.2.2 0) => ?_)
    subst ex3
    exact pz_lretS hx hb hr hlocks rfl d_PM_open_101
  · have hl : lv_has ls 2 [(0, .ref pm), (1, .int 4)] := hl
    refine lv_tableIn (x := 4) (tgt := 87) hx hb d_PM_open_1 (by decide) (by decide) rfl (by decide) ?_
    refine lv_aload_n hx hb d_PM_open_87 rfl (lv_at hl 0 rfl) ?_
    refine pz_get (ci := 4) (C := "PageMaker") (T := T_PM) (N := 4) hx hb htb in_PM hown hK hP hp hfp rfl 3 (by decide) (htb _ tw_163) (fun _ h9 => h9) rfl d_PM_open_88 ?_
    refine pz_get (ci := 2) (C := "PageMaker$OpenPage") (T := T_OP) (N := 8) hx hb htb in_OP hown hK hP ho hfo rfl 0 (by decide) (htb _ tw_124) (fun _ h9 => h9) rfl d_PM_open_91 ?_
    refine pz_get (ci := 3) (C := "PageMaker$Totals") (T := T_TO) (N := 4) hx hb htb in_TO hown hK hP ht hft rfl 0 (by decide) (htb _ tw_99) (fun _ h9 => h9) rfl d_PM_open_94 ?_
    refine lv_iload_n hx hb d_PM_open_97 rfl (lv_at hl 1 rfl) ?_
    refine lv_iconst (v := 3) hx hb d_PM_open_98 (by decide) ?_
    refine lv_isub hx hb d_PM_open_99 ?_
    refine lv_topi (fun x4 ex4 => ?_)
    have ex4 : x4 = 1 := ex4.trans (rfl)
    subst ex4
    have hin5 : vp_in 1 4 := vp_in_nI (n := 1) (N := 4) (by decide) (by decide)
    refine pz_lald hx hb hK hP 1 hs9 hsa rfl hin5 d_PM_open_100 ?_
    refine lv_topl (fun x6 (ex6 : x6 = T.2.2.2 1) => ?_)
    subst ex6
    exact pz_lretS hx hb hr hlocks rfl d_PM_open_101
  · have hl : lv_has ls 2 [(0, .ref pm), (1, .int 5)] := hl
    refine lv_tableIn (x := 5) (tgt := 87) hx hb d_PM_open_1 (by decide) (by decide) rfl (by decide) ?_
    refine lv_aload_n hx hb d_PM_open_87 rfl (lv_at hl 0 rfl) ?_
    refine pz_get (ci := 4) (C := "PageMaker") (T := T_PM) (N := 4) hx hb htb in_PM hown hK hP hp hfp rfl 3 (by decide) (htb _ tw_163) (fun _ h9 => h9) rfl d_PM_open_88 ?_
    refine pz_get (ci := 2) (C := "PageMaker$OpenPage") (T := T_OP) (N := 8) hx hb htb in_OP hown hK hP ho hfo rfl 0 (by decide) (htb _ tw_124) (fun _ h9 => h9) rfl d_PM_open_91 ?_
    refine pz_get (ci := 3) (C := "PageMaker$Totals") (T := T_TO) (N := 4) hx hb htb in_TO hown hK hP ht hft rfl 0 (by decide) (htb _ tw_99) (fun _ h9 => h9) rfl d_PM_open_94 ?_
    refine lv_iload_n hx hb d_PM_open_97 rfl (lv_at hl 1 rfl) ?_
    refine lv_iconst (v := 3) hx hb d_PM_open_98 (by decide) ?_
    refine lv_isub hx hb d_PM_open_99 ?_
    refine lv_topi (fun x7 ex7 => ?_)
    have ex7 : x7 = 2 := ex7.trans (rfl)
    subst ex7
    have hin8 : vp_in 2 4 := vp_in_nI (n := 2) (N := 4) (by decide) (by decide)
    refine pz_lald hx hb hK hP 1 hs9 hsa rfl hin8 d_PM_open_100 ?_
    refine lv_topl (fun x9 (ex9 : x9 = T.2.2.2 2) => ?_)
    subst ex9
    exact pz_lretS hx hb hr hlocks rfl d_PM_open_101
  · have hl : lv_has ls 2 [(0, .ref pm), (1, .int 6)] := hl
    refine lv_tableIn (x := 6) (tgt := 87) hx hb d_PM_open_1 (by decide) (by decide) rfl (by decide) ?_
    refine lv_aload_n hx hb d_PM_open_87 rfl (lv_at hl 0 rfl) ?_
    refine pz_get (ci := 4) (C := "PageMaker") (T := T_PM) (N := 4) hx hb htb in_PM hown hK hP hp hfp rfl 3 (by decide) (htb _ tw_163) (fun _ h9 => h9) rfl d_PM_open_88 ?_
    refine pz_get (ci := 2) (C := "PageMaker$OpenPage") (T := T_OP) (N := 8) hx hb htb in_OP hown hK hP ho hfo rfl 0 (by decide) (htb _ tw_124) (fun _ h9 => h9) rfl d_PM_open_91 ?_
    refine pz_get (ci := 3) (C := "PageMaker$Totals") (T := T_TO) (N := 4) hx hb htb in_TO hown hK hP ht hft rfl 0 (by decide) (htb _ tw_99) (fun _ h9 => h9) rfl d_PM_open_94 ?_
    refine lv_iload_n hx hb d_PM_open_97 rfl (lv_at hl 1 rfl) ?_
    refine lv_iconst (v := 3) hx hb d_PM_open_98 (by decide) ?_
    refine lv_isub hx hb d_PM_open_99 ?_
    refine lv_topi (fun x10 ex10 => ?_)
    have ex10 : x10 = 3 := ex10.trans (rfl)
    subst ex10
    have hin11 : vp_in 3 4 := vp_in_nI (n := 3) (N := 4) (by decide) (by decide)
    refine pz_lald hx hb hK hP 1 hs9 hsa rfl hin11 d_PM_open_100 ?_
    refine lv_topl (fun x12 (ex12 : x12 = T.2.2.2 3) => ?_)
    subst ex12
    exact pz_lretS hx hb hr hlocks rfl d_PM_open_101
  · have hl : lv_has ls 2 [(0, .ref pm), (1, .int 7)] := hl
    refine lv_tableIn (x := 7) (tgt := 102) hx hb d_PM_open_1 (by decide) (by decide) rfl (by decide) ?_
    refine lv_aload_n hx hb d_PM_open_102 rfl (lv_at hl 0 rfl) ?_
    refine pz_get (ci := 4) (C := "PageMaker") (T := T_PM) (N := 4) hx hb htb in_PM hown hK hP hp hfp rfl 3 (by decide) (htb _ tw_163) (fun _ h9 => h9) rfl d_PM_open_103 ?_
    refine pz_get (ci := 2) (C := "PageMaker$OpenPage") (T := T_OP) (N := 8) hx hb htb in_OP hown hK hP ho hfo rfl 4 (by decide) (htb _ tw_135) (fun _ h9 => h9) rfl d_PM_open_106 ?_
    refine lv_i2l hx hb d_PM_open_109 rfl ?_
    exact pz_lretS hx hb hr hlocks rfl d_PM_open_110
  · have hl : lv_has ls 2 [(0, .ref pm), (1, .int 8)] := hl
    refine lv_tableIn (x := 8) (tgt := 111) hx hb d_PM_open_1 (by decide) (by decide) rfl (by decide) ?_
    refine lv_aload_n hx hb d_PM_open_111 rfl (lv_at hl 0 rfl) ?_
    refine pz_get (ci := 4) (C := "PageMaker") (T := T_PM) (N := 4) hx hb htb in_PM hown hK hP hp hfp rfl 3 (by decide) (htb _ tw_163) (fun _ h9 => h9) rfl d_PM_open_112 ?_
    refine pz_get (ci := 2) (C := "PageMaker$OpenPage") (T := T_OP) (N := 8) hx hb htb in_OP hown hK hP ho hfo rfl 5 (by decide) (htb _ tw_138) (fun _ h9 => h9) rfl d_PM_open_115 ?_
    refine lv_i2l hx hb d_PM_open_118 rfl ?_
    exact pz_lretS hx hb hr hlocks rfl d_PM_open_119
  · have hl : lv_has ls 2 [(0, .ref pm), (1, .int 9)] := hl
    refine lv_tableIn (x := 9) (tgt := 120) hx hb d_PM_open_1 (by decide) (by decide) rfl (by decide) ?_
    refine lv_aload_n hx hb d_PM_open_120 rfl (lv_at hl 0 rfl) ?_
    refine pz_get (ci := 4) (C := "PageMaker") (T := T_PM) (N := 4) hx hb htb in_PM hown hK hP hp hfp rfl 3 (by decide) (htb _ tw_163) (fun _ h9 => h9) rfl d_PM_open_121 ?_
    refine pz_get (ci := 2) (C := "PageMaker$OpenPage") (T := T_OP) (N := 8) hx hb htb in_OP hown hK hP ho hfo rfl 0 (by decide) (htb _ tw_124) (fun _ h9 => h9) rfl d_PM_open_124 ?_
    refine pz_get (ci := 3) (C := "PageMaker$Totals") (T := T_TO) (N := 4) hx hb htb in_TO hown hK hP ht hft rfl 3 (by decide) (htb _ tw_111) (fun _ h9 => h9) rfl d_PM_open_127 ?_
    exact pz_lretS hx hb hr hlocks rfl d_PM_open_130
set_option maxHeartbeats 4000000 in
set_option maxRecDepth 100000 in
/-- open throws -/
theorem x_PM_open (l : Launch) (hl9 : l.stackTraces = false) (G : gG) (L : List Nat) (f : Nat → va_E) (sz : Nat) (pm : Nat) (n : Int32) (hno : ¬ (0 ≤ n ∧ n < 10)) : mX l y_PM_open w_PM_open ({ frames := 6, cells := 1, slots := 6, locals := 82 }) G L f sz [.ref pm, .int n] "java/lang/IndexOutOfBoundsException" := by
  refine pz_metX (cc := prog_1_method_12_code) (maxL := 2) (ret := (some .long)) (by decide) rfl (Nat.le_of_ble_eq_true rfl) ?_
  intro p e s m below meth c ls hx hb hr hml hts hown hlocks hnt hsz hK hP hD hS hA hz hl
  have htb : ∀ w ∈ TB, w.before _ s = true := fun w h => hts w (List.mem_cons_of_mem _ h)
  have hl : lv_has ls 2 [(0, .ref pm), (1, .int n)] := hl
  refine lv_iload_n hx hb d_PM_open_0 rfl (lv_at hl 1 rfl) ?_
  refine lv_tableOut (tgt := 131) hx hb d_PM_open_1 (k_out10 hno) (by decide) ?_
  exact pz_thr 184 "of the open page 0 to 9 can be asked" 127 131 hx hb hl9 hown (by decide +kernel) htb hz hnt hlocks hK hP hD hS tw_615 tw_26 at_IOB1 at_IOB2 at_IOB3 (by decide +kernel) hml hl.1 d_PM_open_131 d_PM_open_134 d_PM_open_135 d_PM_open_137 d_PM_open_140 (Nat.le_of_ble_eq_true rfl) (Nat.le_of_ble_eq_true rfl) (Nat.le_of_ble_eq_true rfl) (Nat.le_of_ble_eq_true rfl) (Nat.le_of_ble_eq_true rfl) (Nat.le_of_ble_eq_true rfl)
set_option maxHeartbeats 4000000 in
set_option maxRecDepth 100000 in
/-- stands(k, i) -/
theorem c_PM_stands (l : Launch) (G : gG) (L : List Nat) (f : Nat → va_E) (sz : Nat) (pm al ad el ed fr op to sa fo : Nat) (xs ys : List Nat) (its : List It) (F9 : Fr) (pgs : List (Fr × Pg)) (F : Fr) (P : Op) (T : Tt) (k y a i : Nat) (b0 b1 c0 c1 : Int32) (hR : RX G L f pm al ad el ed fr op to sa fo xs ys (its, F9, pgs, F, P, T)) (hpg : pgs.length ≤ 512) (hn5 : its.length ≤ 512) (hy9 : ys[k]? = some y) (pg : Fr × Pg) (hp9 : pgs[k]? = some pg) (hpa : pg.2.1 = nI a) (hbx : its[a]? = some (.inl (b0, b1))) (hai : a ≤ i) (hib : nI i < pg.2.2.1) (hi9 : its[i]? = some (.inl (c0, c1))) (h6 : vp_in pg.2.2.2.2.2.2.2.1 4) : mJ l y_PM_stands w_PM_stands ({ frames := 4, cells := 2, slots := 8, locals := 90 }) G L f sz [.ref pm, .int (nI k), .int (nI i)] 2 8 (fun r u => r = st_v pg.2 (t_list its pg.1 a i) c0 ∧ RX G u.1 u.2 pm al ad el ed fr op to sa fo xs ys (its, F9, pgs, F, P, T)) := by
  refine pz_met (cc := prog_1_method_10_code) (maxL := 6) (ret := (some .long)) (by decide) rfl (Nat.le_of_ble_eq_true rfl) ?_
  intro p e s m below meth c ls hx hb hr hml hts hown hlocks hin hsz hK hP hD hS hA hz hl
  have htb : ∀ w ∈ TB, w.before _ s = true := fun w h => hts w (List.mem_cons_of_mem _ h)
  have hl : lv_has ls 6 [(0, .ref pm), (1, .int (nI k)), (2, .int (nI i))] := hl
  obtain ⟨hp, hfp, h_al, h_el, hne9, hdd, hX, hY, hr9, hfr, ho, hfo, ht, hft, hs9, hsa, hr8, hfof⟩ := id hR
  have hX : XR L f xs its := hX
  have hY : YR L f ys pgs := hY
  have hfr : f fr = frE F9 := hfr
  have hfo : f op = opE to fo P := hfo
  have hft : f to = toE sa T := hft
  have hsa : f sa = saE G T := hsa
  have hfof : f fo = frE F := hfof
  obtain ⟨mo_al, hm_al, hc_al, -⟩ := id h_al
  obtain ⟨mo_el, hm_el, hc_el, -⟩ := id h_el
  have hxl : xs.length = its.length := hX.1
  have hil : i < its.length := (List.getElem?_eq_some_iff.mp hi9).1
  obtain ⟨hyL, z9, hzL, hfz, hfy⟩ := hY.2 k y _ hy9 hp9
  obtain ⟨x, hx9⟩ : ∃ x, xs[i]? = some x := ⟨_, List.getElem?_eq_getElem (by omega)⟩
  obtain ⟨hxL, hfx, -⟩ := hX.2 i x _ hx9 hi9
  have hfy1 : f y = .inr (9, [.ref z9, .int (nI a), .int pg.2.2.1, .int pg.2.2.2.1, .int pg.2.2.2.2.1, .int pg.2.2.2.2.2.1, .long pg.2.2.2.2.2.2.1, .int pg.2.2.2.2.2.2.2.1, .long pg.2.2.2.2.2.2.2.2]) := by rw [hfy, pgE, hpa]
  refine lv_aload_n hx hb d_PM_stands_0 rfl (lv_at hl 0 rfl) ?_
  refine lv_iload_n hx hb d_PM_stands_1 rfl (lv_at hl 1 rfl) ?_
  refine va_csq (va_Run.run (va_runV (As := [.int (nI k)]) (rest := []) ⟨hx, hb, hml, hown, hts⟩ (c_PM_endedPage l G L f _ pm al ad el ed fr op to sa fo xs ys its F9 pgs F P T k y hR hpg hy9) (cwV 1 hts (tb_V tw_611 tw_613 tp_12 tw_1 tw_614) rfl rfl rfl (by decide +kernel) ⟨(Nat.le_of_ble_eq_true rfl), (Nat.le_of_ble_eq_true rfl)⟩) (pz_preV (zz_ok _ _ _) hK hP hD hS hA hz (ci := 4) rfl rfl hp hfp) rfl rfl hl.1 rfl (lv_room (Nat.le_of_ble_eq_true rfl)) d_PM_stands_2 ⟨(Nat.le_of_ble_eq_true rfl), (Nat.le_of_ble_eq_true rfl)⟩)) (fun r1 hw => ?_)
  have hw : r1 = some y := hw
  subst hw
  refine W.eq (g2 := F0 m 5 ls [.ref y]) rfl ?_
  refine lv_astore_n (lv' := [(3, .ref y), (0, .ref pm), (1, .int (nI k)), (2, .int (nI i))]) hx hb d_PM_stands_5 rfl hl (by decide) rfl (fun ls hl => ?_)
  refine lv_aload_n hx hb d_PM_stands_6 rfl (lv_at hl 1 rfl) ?_
  refine lv_iload_n hx hb d_PM_stands_7 rfl (lv_at hl 3 rfl) ?_
  refine vp_callSi (va_Run.run (va_runV (As := [.int (nI i)]) (rest := []) ⟨hx, hb, hml, hown, hts⟩ (c_PM_isItem l G L f _ pm al el fr op ad xs (nI i) hp hfp h_al) (cwV 1 hts (tb_V tw_386 tw_388 tp_7 tw_1 tw_389) rfl rfl rfl (by decide +kernel) ⟨(Nat.le_of_ble_eq_true rfl), (Nat.le_of_ble_eq_true rfl)⟩) (pz_preV (zz_ok _ _ _) hK hP hD hS hA hz (ci := 4) rfl rfl hp hfp) rfl rfl hl.1 rfl (lv_room (Nat.le_of_ble_eq_true rfl)) d_PM_stands_8 ⟨(Nat.le_of_ble_eq_true rfl), (Nat.le_of_ble_eq_true rfl)⟩)) (fun r2 hw => ?_)
  have hw : r2 = 1 := k_by (show k_b (0 ≤ nI i ∧ nI i < nI xs.length) r2 from hw) ⟨nI_pos' (by omega), nI_lt (by omega) (by omega)⟩
  subst hw
  refine lv_if_eq (tgt := 88) hx hb d_PM_stands_11 (by decide) (fun c0 => absurd c0 (by decide)) (fun _ => ?_)
  refine lv_aload_n hx hb d_PM_stands_14 rfl (lv_at hl 0 rfl) ?_
  refine lv_iload_n hx hb d_PM_stands_15 rfl (lv_at hl 3 rfl) ?_
  refine vp_callSi (va_Run.run (va_runV (As := [.int (nI i)]) (rest := []) ⟨hx, hb, hml, hown, hts⟩ (c_EP_holds l G L f _ y z9 (nI a) pg.2.2.1 pg.2.2.2.1 pg.2.2.2.2.1 pg.2.2.2.2.2.1 pg.2.2.2.2.2.2.2.1 (nI i) pg.2.2.2.2.2.2.1 pg.2.2.2.2.2.2.2.2 hyL hfy1) (cwV 1 hts (tb_V tw_639 tw_640 tw_641 tw_22 tw_642) rfl rfl rfl (by decide +kernel) ⟨(Nat.le_of_ble_eq_true rfl), (Nat.le_of_ble_eq_true rfl)⟩) (pz_preV (zz_ok _ _ _) hK hP hD hS hA hz (ci := 9) rfl rfl hyL hfy1) rfl rfl hl.1 rfl (lv_room (Nat.le_of_ble_eq_true rfl)) d_PM_stands_16 ⟨(Nat.le_of_ble_eq_true rfl), (Nat.le_of_ble_eq_true rfl)⟩)) (fun r3 hw => ?_)
  have hw : r3 = 1 := k_by (show k_b (nI a ≤ nI i ∧ nI i < pg.2.2.1) r3 from hw) ⟨nI_le hai (by omega), hib⟩
  subst hw
  refine lv_if_eq (tgt := 88) hx hb d_PM_stands_19 (by decide) (fun c0 => absurd c0 (by decide)) (fun _ => ?_)
  refine lv_aload_n hx hb d_PM_stands_22 rfl (lv_at hl 1 rfl) ?_
  refine pz_get (ci := 4) (C := "PageMaker") (T := T_PM) (N := 4) hx hb htb in_PM hown hK hP hp hfp rfl 0 (by decide) (htb _ tw_160) (fun _ h9 => h9) rfl d_PM_stands_23 ?_
  refine lv_iload_n hx hb d_PM_stands_26 rfl (lv_at hl 3 rfl) ?_
  refine va_csq (va_Run.run (va_runV (As := [.int (nI i)]) (rest := []) ⟨hx, hb, hml, hown, hts⟩ (al_get l G L f _ al ad xs i x h_al hx9) (cwV 1 hts (tb_V tw_390 tw_391 tw_392 tw_4 tw_393) rfl rfl rfl (by decide +kernel) ⟨(Nat.le_of_ble_eq_true rfl), (Nat.le_of_ble_eq_true rfl)⟩) (pz_preV (zz_ok _ _ _) hK hP hD hS hA hz (ci := 0) rfl rfl hm_al hc_al) rfl rfl hl.1 rfl (lv_room (Nat.le_of_ble_eq_true rfl)) d_PM_stands_27 ⟨(Nat.le_of_ble_eq_true rfl), (Nat.le_of_ble_eq_true rfl)⟩)) (fun r4 hw => ?_)
  have hw : r4 = some x := hw
  subst hw
  refine W.eq (g2 := F0 m 30 ls [.ref x]) rfl ?_
  refine lv_astore (lv' := [(5, .ref x), (3, .ref y), (0, .ref pm), (1, .int (nI k)), (2, .int (nI i))]) hx hb d_PM_stands_30 hl (by decide) rfl (fun ls hl => ?_)
  refine lv_aload hx hb d_PM_stands_32 (lv_at hl 0 rfl) ?_
  refine va_instE hx hb hown (htb _ tw_298) (pz_recv hK hP (ci := 5) rfl hxL hfx) d_PM_stands_34 ?_
  refine lv_if_eq (tgt := 88) hx hb d_PM_stands_37 (by decide) (fun c0 => absurd c0 (by decide)) (fun _ => ?_)
  refine lv_aload hx hb d_PM_stands_40 (lv_at hl 0 rfl) ?_
  refine va_castE hx hb hown (htb _ tw_298) (pz_recv hK hP (ci := 5) rfl hxL hfx) d_PM_stands_42 ?_
  refine lv_astore (lv' := [(4, .ref x), (5, .ref x), (3, .ref y), (0, .ref pm), (1, .int (nI k)), (2, .int (nI i))]) hx hb d_PM_stands_45 hl (by decide) rfl (fun ls hl => ?_)
  refine lv_aload_n hx hb d_PM_stands_47 rfl (lv_at hl 3 rfl) ?_
  refine lv_aload_n hx hb d_PM_stands_48 rfl (lv_at hl 2 rfl) ?_
  refine pz_get (ci := 9) (C := "PageMaker$EndedPage") (T := T_EP) (N := 9) hx hb htb in_EP hown hK hP hyL hfy1 rfl 0 (by decide) (htb _ tw_489) (fun _ h9 => h9) rfl d_PM_stands_49 ?_
  refine lv_aload_n hx hb d_PM_stands_52 rfl (lv_at hl 2 rfl) ?_
  refine pz_get (ci := 9) (C := "PageMaker$EndedPage") (T := T_EP) (N := 9) hx hb htb in_EP hown hK hP hyL hfy1 rfl 1 (by decide) (htb _ tw_491) (fun _ h9 => h9) rfl d_PM_stands_53 ?_
  refine lv_iload_n hx hb d_PM_stands_56 rfl (lv_at hl 5 rfl) ?_
  refine pz_cr (va_runV (As := [.ref z9, .int (nI a), .int (nI i)]) (rest := []) ⟨hx, hb, hml, hown, hts⟩ (c_PM_totalsOf l G L f _ pm al ad el fr op z9 a i xs its pg.1 b0 b1 hp hfp h_al hX hzL hfz hai (by omega) hn5 hbx) (cwV 3 hts (tb_V tw_448 tw_450 tp_10 tw_1 tw_451) rfl rfl rfl (by decide +kernel) ⟨(Nat.le_of_ble_eq_true rfl), (Nat.le_of_ble_eq_true rfl)⟩) (pz_preV (zz_ok _ _ _) hK hP hD hS hA hz (ci := 4) rfl rfl hp hfp) rfl rfl hl.1 rfl (lv_room (Nat.le_of_ble_eq_true rfl)) d_PM_stands_57 ⟨(Nat.le_of_ble_eq_true rfl), (Nat.le_of_ble_eq_true rfl)⟩) hP hD hS hA (fun t2 L2 f2 H locs hw hP hD hS => ?_)
  obtain ⟨hnt2, sa2, hnsa2, hts2, eL2, hft2, hfs2, hk2⟩ := hw
  have eL2 : L2 = L ++ [t2] ++ [sa2] := eL2
  subst L2
  have hft2 : f2 t2 = toE sa2 (t_list its pg.1 a i) := hft2
  have hfs2 : f2 sa2 = saE G (t_list its pg.1 a i) := hfs2
  have hk2 : ∀ z, z ≠ t2 → z ≠ sa2 → f2 z = f z := hk2
  have hsub2 : ∀ z, z ∈ L → z ∈ (L ++ [t2] ++ [sa2]) := fun z hz => List.mem_append_left _ (List.mem_append_left _ hz)
  have hold2 : ∀ z, z ∈ L → f2 z = f z := fun z hz => hk2 z (Ne.symm (pz_nef hnt2 hz)) (Ne.symm (pz_nef hnsa2 hz))
  have hfy2 : f2 y = .inr (9, [.ref z9, .int (nI a), .int pg.2.2.1, .int pg.2.2.2.1, .int pg.2.2.2.2.1, .int pg.2.2.2.2.2.1, .long pg.2.2.2.2.2.2.1, .int pg.2.2.2.2.2.2.2.1, .long pg.2.2.2.2.2.2.2.2]) := (hold2 _ hyL).trans hfy1
  have hfx2 : f2 x = itE (.inl (c0, c1)) := (hold2 _ hxL).trans hfx
  refine lv_astore (lv' := [(5, .ref t2), (4, .ref x), (3, .ref y), (0, .ref pm), (1, .int (nI k)), (2, .int (nI i))]) hx hb d_PM_stands_60 hl (by decide) rfl (fun ls hl => ?_)
  refine lv_aload hx hb d_PM_stands_62 (lv_at hl 0 rfl) ?_
  refine pz_get (ci := 3) (C := "PageMaker$Totals") (T := T_TO) (N := 4) hx hb htb in_TO hown hK hP (List.mem_append_left _ (l_in_new _ _)) hft2 rfl 1 (by decide) (htb _ tw_104) (fun _ h9 => h9) rfl d_PM_stands_64 ?_
  refine lv_aload hx hb d_PM_stands_67 (lv_at hl 0 rfl) ?_
  refine pz_get (ci := 3) (C := "PageMaker$Totals") (T := T_TO) (N := 4) hx hb htb in_TO hown hK hP (List.mem_append_left _ (l_in_new _ _)) hft2 rfl 2 (by decide) (htb _ tw_107) (fun _ h9 => h9) rfl d_PM_stands_69 ?_
  refine lv_ladd hx hb d_PM_stands_72 ?_
  refine lv_aload hx hb d_PM_stands_73 (lv_at hl 1 rfl) ?_
  refine pz_get (ci := 5) (C := "PageMaker$Box") (T := T_BX) (N := 2) hx hb htb in_BX hown hK hP (hsub2 _ hxL) hfx2 rfl 0 (by decide) (htb _ tw_309) (fun _ h9 => h9) rfl d_PM_stands_75 ?_
  refine lv_i2l hx hb d_PM_stands_78 rfl ?_
  refine lv_ladd hx hb d_PM_stands_79 ?_
  refine lv_aload_n hx hb d_PM_stands_80 rfl (lv_at hl 2 rfl) ?_
  refine lv_aload hx hb d_PM_stands_81 (lv_at hl 0 rfl) ?_
  refine vp_callSl (va_Run.run (va_runV (As := [.ref t2]) (rest := [.long (((t_list its pg.1 a i).1 + (t_list its pg.1 a i).2.1) + c0.toInt64)]) ⟨hx, hb, hml, hown, hts⟩ (c_EP_shareOf l G (L ++ [t2] ++ [sa2]) f2 _ y z9 t2 sa2 (nI a) pg.2.2.1 pg.2.2.2.1 pg.2.2.2.2.1 pg.2.2.2.2.2.1 pg.2.2.2.2.2.2.2.1 pg.2.2.2.2.2.2.1 pg.2.2.2.2.2.2.2.2 (t_list its pg.1 a i).1 (t_list its pg.1 a i).2.1 (t_list its pg.1 a i).2.2.1 (t_list its pg.1 a i).2.2.2 (hsub2 _ hyL) hfy2 (List.mem_append_left _ (l_in_new _ _)) hft2 (l_in_new _ _) hfs2 h6) (cwV 1 hts (tb_V tw_643 tw_644 tw_645 tw_22 tw_646) rfl rfl rfl (by decide +kernel) ⟨(Nat.le_of_ble_eq_true rfl), (Nat.le_of_ble_eq_true rfl)⟩) (pz_preV (zz_ok _ _ _) hK hP hD hS hA hz (ci := 9) rfl rfl (hsub2 _ hyL) hfy2) rfl rfl hl.1 rfl (lv_room (Nat.le_of_ble_eq_true rfl)) d_PM_stands_83 ⟨(Nat.le_of_ble_eq_true rfl), (Nat.le_of_ble_eq_true rfl)⟩)) (fun r5 hw => ?_)
  have hw : r5 = (sh_v pg.2 (t_list its pg.1 a i)) := hw
  subst r5
  refine lv_ladd hx hb d_PM_stands_86 ?_
  have hR2 : RX G (L ++ [t2] ++ [sa2]) f2 pm al ad el ed fr op to sa fo xs ys (its, F9, pgs, F, P, T) := rx_grow2 hR hnt2 hnsa2 hk2
  exact pz_lret hx hb hr hlocks hK hP hD hS (Nat.le_of_ble_eq_true rfl) (Nat.le_of_ble_eq_true rfl) ⟨rfl, hR2⟩ d_PM_stands_87
set_option maxHeartbeats 4000000 in
set_option maxRecDepth 100000 in
/-- stands throws -/
theorem x_PM_stands (l : Launch) (hl9 : l.stackTraces = false) (G : gG) (L : List Nat) (f : Nat → va_E) (sz : Nat) (pm al ad el ed fr op to sa fo : Nat) (xs ys : List Nat) (its : List It) (F9 : Fr) (pgs : List (Fr × Pg)) (F : Fr) (P : Op) (T : Tt) (k i : Int32) (hR : RX G L f pm al ad el ed fr op to sa fo xs ys (its, F9, pgs, F, P, T)) (hpg : pgs.length ≤ 512) (hn5 : its.length ≤ 512) (hno : ¬ st_ok its pgs k i) : mX l y_PM_stands w_PM_stands ({ frames := 7, cells := 1, slots := 6, locals := 103 }) G L f sz [.ref pm, .int k, .int i] "java/lang/IndexOutOfBoundsException" := by
  refine pz_metX (cc := prog_1_method_10_code) (maxL := 6) (ret := (some .long)) (by decide) rfl (Nat.le_of_ble_eq_true rfl) ?_
  intro p e s m below meth c ls hx hb hr hml hts hown hlocks hnt hsz hK hP hD hS hA hz hl
  have htb : ∀ w ∈ TB, w.before _ s = true := fun w h => hts w (List.mem_cons_of_mem _ h)
  have hl : lv_has ls 6 [(0, .ref pm), (1, .int k), (2, .int i)] := hl
  obtain ⟨hp, hfp, h_al, h_el, hne9, hdd, hX, hY, hr9, hfr, ho, hfo, ht, hft, hs9, hsa, hr8, hfof⟩ := id hR
  have hX : XR L f xs its := hX
  have hY : YR L f ys pgs := hY
  have hfr : f fr = frE F9 := hfr
  have hfo : f op = opE to fo P := hfo
  have hft : f to = toE sa T := hft
  have hsa : f sa = saE G T := hsa
  have hfof : f fo = frE F := hfof
  obtain ⟨mo_al, hm_al, hc_al, -⟩ := id h_al
  obtain ⟨mo_el, hm_el, hc_el, -⟩ := id h_el
  have hyl : ys.length = pgs.length := hY.1
  have hxl : xs.length = its.length := hX.1
  by_cases hk : 0 ≤ k ∧ k < nI pgs.length
  · obtain ⟨kk, hkk, rfl⟩ := k_idx hk (by omega)
    obtain ⟨y, hy9⟩ : ∃ y, ys[kk]? = some y := ⟨_, List.getElem?_eq_getElem (by omega)⟩
    obtain ⟨pg, hp9⟩ : ∃ pg, pgs[kk]? = some pg := ⟨_, List.getElem?_eq_getElem hkk⟩
    obtain ⟨hyL, z9, hzL, hfz, hfy⟩ := hY.2 kk y _ hy9 hp9
    refine lv_aload_n hx hb d_PM_stands_0 rfl (lv_at hl 0 rfl) ?_
    refine lv_iload_n hx hb d_PM_stands_1 rfl (lv_at hl 1 rfl) ?_
    refine va_csq (va_Run.run (va_runV (As := [.int (nI kk)]) (rest := []) ⟨hx, hb, hml, hown, hts⟩ (c_PM_endedPage l G L f _ pm al ad el ed fr op to sa fo xs ys its F9 pgs F P T kk y hR hpg hy9) (cwV 1 hts (tb_V tw_611 tw_613 tp_12 tw_1 tw_614) rfl rfl rfl (by decide +kernel) ⟨(Nat.le_of_ble_eq_true rfl), (Nat.le_of_ble_eq_true rfl)⟩) (pz_preV (zz_ok _ _ _) hK hP hD hS hA hz (ci := 4) rfl rfl hp hfp) rfl rfl hl.1 rfl (lv_room (Nat.le_of_ble_eq_true rfl)) d_PM_stands_2 ⟨(Nat.le_of_ble_eq_true rfl), (Nat.le_of_ble_eq_true rfl)⟩)) (fun r1 hw => ?_)
    have hw : r1 = some y := hw
    subst hw
    refine W.eq (g2 := F0 m 5 ls [.ref y]) rfl ?_
    refine lv_astore_n (lv' := [(3, .ref y), (0, .ref pm), (1, .int (nI kk)), (2, .int i)]) hx hb d_PM_stands_5 rfl hl (by decide) rfl (fun ls hl => ?_)
    refine lv_aload_n hx hb d_PM_stands_6 rfl (lv_at hl 1 rfl) ?_
    refine lv_iload_n hx hb d_PM_stands_7 rfl (lv_at hl 3 rfl) ?_
    refine vp_callSi (va_Run.run (va_runV (As := [.int i]) (rest := []) ⟨hx, hb, hml, hown, hts⟩ (c_PM_isItem l G L f _ pm al el fr op ad xs i hp hfp h_al) (cwV 1 hts (tb_V tw_386 tw_388 tp_7 tw_1 tw_389) rfl rfl rfl (by decide +kernel) ⟨(Nat.le_of_ble_eq_true rfl), (Nat.le_of_ble_eq_true rfl)⟩) (pz_preV (zz_ok _ _ _) hK hP hD hS hA hz (ci := 4) rfl rfl hp hfp) rfl rfl hl.1 rfl (lv_room (Nat.le_of_ble_eq_true rfl)) d_PM_stands_8 ⟨(Nat.le_of_ble_eq_true rfl), (Nat.le_of_ble_eq_true rfl)⟩)) (fun r2 hw => ?_)
    rcases (show k_b (0 ≤ i ∧ i < nI xs.length) r2 from hw) with ⟨rfl, hq3⟩ | ⟨rfl, hq3⟩
    · refine lv_if_eq (tgt := 88) hx hb d_PM_stands_11 (by decide) (fun c0 => absurd c0 (by decide)) (fun _ => ?_)
      refine lv_aload_n hx hb d_PM_stands_14 rfl (lv_at hl 0 rfl) ?_
      refine lv_iload_n hx hb d_PM_stands_15 rfl (lv_at hl 3 rfl) ?_
      refine vp_callSi (va_Run.run (va_runV (As := [.int i]) (rest := []) ⟨hx, hb, hml, hown, hts⟩ (c_EP_holds l G L f _ y z9 pg.2.1 pg.2.2.1 pg.2.2.2.1 pg.2.2.2.2.1 pg.2.2.2.2.2.1 pg.2.2.2.2.2.2.2.1 i pg.2.2.2.2.2.2.1 pg.2.2.2.2.2.2.2.2 hyL hfy) (cwV 1 hts (tb_V tw_639 tw_640 tw_641 tw_22 tw_642) rfl rfl rfl (by decide +kernel) ⟨(Nat.le_of_ble_eq_true rfl), (Nat.le_of_ble_eq_true rfl)⟩) (pz_preV (zz_ok _ _ _) hK hP hD hS hA hz (ci := 9) rfl rfl hyL hfy) rfl rfl hl.1 rfl (lv_room (Nat.le_of_ble_eq_true rfl)) d_PM_stands_16 ⟨(Nat.le_of_ble_eq_true rfl), (Nat.le_of_ble_eq_true rfl)⟩)) (fun r4 hw => ?_)
      rcases (show k_b (pg.2.1 ≤ i ∧ i < pg.2.2.1) r4 from hw) with ⟨rfl, hq5⟩ | ⟨rfl, hq5⟩
      · refine lv_if_eq (tgt := 88) hx hb d_PM_stands_19 (by decide) (fun c0 => absurd c0 (by decide)) (fun _ => ?_)
        refine lv_aload_n hx hb d_PM_stands_22 rfl (lv_at hl 1 rfl) ?_
        refine pz_get (ci := 4) (C := "PageMaker") (T := T_PM) (N := 4) hx hb htb in_PM hown hK hP hp hfp rfl 0 (by decide) (htb _ tw_160) (fun _ h9 => h9) rfl d_PM_stands_23 ?_
        refine lv_iload_n hx hb d_PM_stands_26 rfl (lv_at hl 3 rfl) ?_
        obtain ⟨ii, hii, rfl⟩ := k_idx hq3 (by omega)
        obtain ⟨x, hx9⟩ : ∃ x, xs[ii]? = some x := ⟨_, List.getElem?_eq_getElem hii⟩
        obtain ⟨it, hi9⟩ : ∃ it, its[ii]? = some it := ⟨_, List.getElem?_eq_getElem (by omega)⟩
        obtain ⟨hxL, hfx, hok⟩ := hX.2 ii x it hx9 hi9
        refine va_csq (va_Run.run (va_runV (As := [.int (nI ii)]) (rest := []) ⟨hx, hb, hml, hown, hts⟩ (al_get l G L f _ al ad xs ii x h_al hx9) (cwV 1 hts (tb_V tw_390 tw_391 tw_392 tw_4 tw_393) rfl rfl rfl (by decide +kernel) ⟨(Nat.le_of_ble_eq_true rfl), (Nat.le_of_ble_eq_true rfl)⟩) (pz_preV (zz_ok _ _ _) hK hP hD hS hA hz (ci := 0) rfl rfl hm_al hc_al) rfl rfl hl.1 rfl (lv_room (Nat.le_of_ble_eq_true rfl)) d_PM_stands_27 ⟨(Nat.le_of_ble_eq_true rfl), (Nat.le_of_ble_eq_true rfl)⟩)) (fun r6 hw => ?_)
        have hw : r6 = some x := hw
        subst hw
        refine W.eq (g2 := F0 m 30 ls [.ref x]) rfl ?_
        refine lv_astore (lv' := [(5, .ref x), (3, .ref y), (0, .ref pm), (1, .int (nI kk)), (2, .int (nI ii))]) hx hb d_PM_stands_30 hl (by decide) rfl (fun ls hl => ?_)
        refine lv_aload hx hb d_PM_stands_32 (lv_at hl 0 rfl) ?_
        rcases it with ⟨ia, ib⟩ | ⟨ia, ib, io, id9⟩ | ia | ia
        · exact absurd ⟨kk, ii, pg, _, _, rfl, rfl, hp9, hi9, hq5⟩ hno
        · refine va_instNo (C := "PageMaker$Glue") hx hb hown (htb _ tw_298) (hz.2.1 ("PageMaker$Glue", "PageMaker$Box") (by decide +kernel)) (pz_recv hK hP (ci := 6) rfl hxL hfx) d_PM_stands_34 ?_
          refine lv_if_eq (tgt := 88) hx hb d_PM_stands_37 (by decide) (fun _ => ?_) (fun c0 => absurd c0 (by decide))
          exact pz_thr 164 "no box of this page" 127 131 hx hb hl9 hown (by decide +kernel) htb hz hnt hlocks hK hP hD hS tw_615 tw_26 at_IOB1 at_IOB2 at_IOB3 (by decide +kernel) hml hl.1 d_PM_stands_88 d_PM_stands_91 d_PM_stands_92 d_PM_stands_94 d_PM_stands_97 (Nat.le_of_ble_eq_true rfl) (Nat.le_of_ble_eq_true rfl) (Nat.le_of_ble_eq_true rfl) (Nat.le_of_ble_eq_true rfl) (Nat.le_of_ble_eq_true rfl) (Nat.le_of_ble_eq_true rfl)
        · refine va_instNo (C := "PageMaker$Kern") hx hb hown (htb _ tw_298) (hz.2.1 ("PageMaker$Kern", "PageMaker$Box") (by decide +kernel)) (pz_recv hK hP (ci := 7) rfl hxL hfx) d_PM_stands_34 ?_
          refine lv_if_eq (tgt := 88) hx hb d_PM_stands_37 (by decide) (fun _ => ?_) (fun c0 => absurd c0 (by decide))
          exact pz_thr 164 "no box of this page" 127 131 hx hb hl9 hown (by decide +kernel) htb hz hnt hlocks hK hP hD hS tw_615 tw_26 at_IOB1 at_IOB2 at_IOB3 (by decide +kernel) hml hl.1 d_PM_stands_88 d_PM_stands_91 d_PM_stands_92 d_PM_stands_94 d_PM_stands_97 (Nat.le_of_ble_eq_true rfl) (Nat.le_of_ble_eq_true rfl) (Nat.le_of_ble_eq_true rfl) (Nat.le_of_ble_eq_true rfl) (Nat.le_of_ble_eq_true rfl) (Nat.le_of_ble_eq_true rfl)
        · refine va_instNo (C := "PageMaker$Penalty") hx hb hown (htb _ tw_298) (hz.2.1 ("PageMaker$Penalty", "PageMaker$Box") (by decide +kernel)) (pz_recv hK hP (ci := 8) rfl hxL hfx) d_PM_stands_34 ?_
          refine lv_if_eq (tgt := 88) hx hb d_PM_stands_37 (by decide) (fun _ => ?_) (fun c0 => absurd c0 (by decide))
          exact pz_thr 164 "no box of this page" 127 131 hx hb hl9 hown (by decide +kernel) htb hz hnt hlocks hK hP hD hS tw_615 tw_26 at_IOB1 at_IOB2 at_IOB3 (by decide +kernel) hml hl.1 d_PM_stands_88 d_PM_stands_91 d_PM_stands_92 d_PM_stands_94 d_PM_stands_97 (Nat.le_of_ble_eq_true rfl) (Nat.le_of_ble_eq_true rfl) (Nat.le_of_ble_eq_true rfl) (Nat.le_of_ble_eq_true rfl) (Nat.le_of_ble_eq_true rfl) (Nat.le_of_ble_eq_true rfl)
      · refine lv_if_eq (tgt := 88) hx hb d_PM_stands_19 (by decide) (fun _ => ?_) (fun c0 => absurd c0 (by decide))
        exact pz_thr 164 "no box of this page" 127 131 hx hb hl9 hown (by decide +kernel) htb hz hnt hlocks hK hP hD hS tw_615 tw_26 at_IOB1 at_IOB2 at_IOB3 (by decide +kernel) hml hl.1 d_PM_stands_88 d_PM_stands_91 d_PM_stands_92 d_PM_stands_94 d_PM_stands_97 (Nat.le_of_ble_eq_true rfl) (Nat.le_of_ble_eq_true rfl) (Nat.le_of_ble_eq_true rfl) (Nat.le_of_ble_eq_true rfl) (Nat.le_of_ble_eq_true rfl) (Nat.le_of_ble_eq_true rfl)
    · refine lv_if_eq (tgt := 88) hx hb d_PM_stands_11 (by decide) (fun _ => ?_) (fun c0 => absurd c0 (by decide))
      exact pz_thr 164 "no box of this page" 127 131 hx hb hl9 hown (by decide +kernel) htb hz hnt hlocks hK hP hD hS tw_615 tw_26 at_IOB1 at_IOB2 at_IOB3 (by decide +kernel) hml hl.1 d_PM_stands_88 d_PM_stands_91 d_PM_stands_92 d_PM_stands_94 d_PM_stands_97 (Nat.le_of_ble_eq_true rfl) (Nat.le_of_ble_eq_true rfl) (Nat.le_of_ble_eq_true rfl) (Nat.le_of_ble_eq_true rfl) (Nat.le_of_ble_eq_true rfl) (Nat.le_of_ble_eq_true rfl)
  · refine lv_aload_n hx hb d_PM_stands_0 rfl (lv_at hl 0 rfl) ?_
    refine lv_iload_n hx hb d_PM_stands_1 rfl (lv_at hl 1 rfl) ?_
    refine pz_cx (aa := #[]) (vx_runV (As := [.int k]) (rest := []) ⟨hx, hb, hml, hown, hts⟩ (x_PM_endedPage l hl9 G L f _ pm al ad el ed fr op to sa fo xs ys its F9 pgs F P T k hR (by rw [hyl]; exact hk)) (cwV 1 hts (tb_V tw_611 tw_613 tp_12 tw_1 tw_614) rfl rfl rfl (by decide +kernel) ⟨(Nat.le_of_ble_eq_true rfl), (Nat.le_of_ble_eq_true rfl)⟩) (pz_preV (zz_ok _ _ _) hK hP hD hS hA hz (ci := 4) rfl rfl hp hfp) rfl rfl hl.1 rfl (lv_room (Nat.le_of_ble_eq_true rfl)) d_PM_stands_2 ⟨(Nat.le_of_ble_eq_true rfl), (Nat.le_of_ble_eq_true rfl)⟩) hP hD hS hA (fun ce q9 H locs hP hD hS h1 h2 h3 => ?_)
    exact pz_out hnt hlocks hK hP hD hS h1 h2 h3 (Nat.le_of_ble_eq_true rfl) (Nat.le_of_ble_eq_true rfl)
set_option maxHeartbeats 4000000 in
set_option maxRecDepth 100000 in
/-- where: its loop at the page k -/
theorem lp_where (l : Launch) (G : gG) (L : List Nat) (f : Nat → va_E) (sz : Nat) (pm al ad el ed fr op to sa fo : Nat) (xs ys : List Nat) (its : List It) (F9 : Fr) (pgs : List (Fr × Pg)) (F : Fr) (P : Op) (T : Tt) (i : Int32) {p : Program} {e : Env} {s : State} {m : MethodId} {below : List Frame} {meth : Method} {c : Code} (hx : p.tables.exec = Jvm.exec) (hb : c.code = prog_1_method_11_code) (hr : meth.sig.returnType = some .int) (hml : c.maxLocals = 3) (hts : ∀ w ∈ w_PM_where, w.before ([.ref pm, .int i] : List Value).toArray s = true) (hown : s.vm.findClass "PageMaker" = some m.cls) (hlocks : meth.locks = false) (hK : va_K (gD G) cls9 (gT G) s) (hP : va_P (gD G) cls9 ([] ++ va_pl L f) s.heap) (hD : va_D (mA L f sz) ([] ++ va_pl L f)) (hS : va_S (mA L f sz) s.heap s.heap []) (hA : ∀ q, s.heap.size ≤ q → mA L f sz q) (hz : gZ G (mA L f sz) s s.heap) (hR : RX G L f pm al ad el ed fr op to sa fo xs ys (its, F9, pgs, F, P, T)) (hpg : pgs.length ≤ 512) :
    ∀ (mm k : Nat) (ls : Array Slot), k + mm = pgs.length → wh_v (pgs.drop k) i k = wh_v pgs i 0 → lv_has ls 3 [(0, .ref pm), (1, .int i), (2, .int (nI k))] →
      W p l e ({ frames := 3, cells := 0, slots := 0, locals := 64 } : Room) s m ([.ref pm, .int i] : List Value).toArray below meth c s.heap [] 0 0 (MQ below (vp_Si (fun r => r = wh_v pgs i 0)) ([.ref pm, .int i] : List Value).toArray s 0 0 (fun _ => False)) (F0 m 20 ls []) := by
  have htb : ∀ w ∈ TB, w.before _ s = true := fun w h => hts w (List.mem_cons_of_mem _ h)
  obtain ⟨hp, hfp, h_al, h_el, hne9, hdd, hX, hY, hr9, hfr, ho, hfo, ht, hft, hs9, hsa, hr8, hfof⟩ := id hR
  have hX : XR L f xs its := hX
  have hY : YR L f ys pgs := hY
  have hfr : f fr = frE F9 := hfr
  have hfo : f op = opE to fo P := hfo
  have hft : f to = toE sa T := hft
  have hsa : f sa = saE G T := hsa
  have hfof : f fo = frE F := hfof
  obtain ⟨mo_al, hm_al, hc_al, -⟩ := id h_al
  obtain ⟨mo_el, hm_el, hc_el, -⟩ := id h_el
  have hyl : ys.length = pgs.length := hY.1
  intro mm
  induction mm with
  | zero =>
    intro k ls hk hwh hl
    refine lv_iload_n hx hb d_PM_where_20 rfl (lv_at hl 2 rfl) ?_
    refine lv_aload_n hx hb d_PM_where_21 rfl (lv_at hl 0 rfl) ?_
    refine pz_get (ci := 4) (C := "PageMaker") (T := T_PM) (N := 4) hx hb htb in_PM hown hK hP hp hfp rfl 1 (by decide) (htb _ tw_161) (fun _ h9 => h9) rfl d_PM_where_22 ?_
    refine vp_callSi (va_Run.run (va_runV (As := []) (rest := [.int (nI k)]) ⟨hx, hb, hml, hown, hts⟩ (al_size l G L f _ el ed ys h_el) (cwV 0 hts (tb_V tw_177 tw_178 tw_179 tw_4 tw_180) rfl rfl rfl (by decide +kernel) ⟨(Nat.le_of_ble_eq_true rfl), (Nat.le_of_ble_eq_true rfl)⟩) (pz_preV (zz_ok _ _ _) hK hP hD hS hA hz (ci := 0) rfl rfl hm_el hc_el) rfl rfl hl.1 rfl (lv_room (Nat.le_of_ble_eq_true rfl)) d_PM_where_25 ⟨(Nat.le_of_ble_eq_true rfl), (Nat.le_of_ble_eq_true rfl)⟩)) (fun r1 hw => ?_)
    have hw : r1 = nI ys.length := hw
    subst r1
    refine lv_icmp_ge (tgt := 57) hx hb d_PM_where_28 (by decide) (fun _ => ?_) (fun c0 => absurd (nI_le (by omega) (by omega)) c0)
    refine lv_iconst (v := (-1)) hx hb d_PM_where_57 (by decide) ?_
    exact pz_iretS hx hb hr rfl hlocks (by rw [← hwh, List.drop_eq_nil_of_le (by omega)]; rfl) d_PM_where_58
  | succ mm ih =>
    intro k ls hk hwh hl
    obtain ⟨y, hy9⟩ : ∃ y, ys[k]? = some y := ⟨_, List.getElem?_eq_getElem (by omega)⟩
    have hkp : k < pgs.length := by omega
    have hp9 : pgs[k]? = some pgs[k] := List.getElem?_eq_getElem hkp
    have hdr : pgs.drop k = pgs[k] :: pgs.drop (k + 1) := List.drop_eq_getElem_cons hkp
    obtain ⟨pg, epg⟩ : ∃ pg, pg = pgs[k] := ⟨_, rfl⟩
    rw [← epg] at hp9 hdr
    rw [hdr] at hwh
    obtain ⟨hyL, z9, hzL, hfz, hfy⟩ := hY.2 k y _ hy9 hp9
    refine lv_iload_n hx hb d_PM_where_20 rfl (lv_at hl 2 rfl) ?_
    refine lv_aload_n hx hb d_PM_where_21 rfl (lv_at hl 0 rfl) ?_
    refine pz_get (ci := 4) (C := "PageMaker") (T := T_PM) (N := 4) hx hb htb in_PM hown hK hP hp hfp rfl 1 (by decide) (htb _ tw_161) (fun _ h9 => h9) rfl d_PM_where_22 ?_
    refine vp_callSi (va_Run.run (va_runV (As := []) (rest := [.int (nI k)]) ⟨hx, hb, hml, hown, hts⟩ (al_size l G L f _ el ed ys h_el) (cwV 0 hts (tb_V tw_177 tw_178 tw_179 tw_4 tw_180) rfl rfl rfl (by decide +kernel) ⟨(Nat.le_of_ble_eq_true rfl), (Nat.le_of_ble_eq_true rfl)⟩) (pz_preV (zz_ok _ _ _) hK hP hD hS hA hz (ci := 0) rfl rfl hm_el hc_el) rfl rfl hl.1 rfl (lv_room (Nat.le_of_ble_eq_true rfl)) d_PM_where_25 ⟨(Nat.le_of_ble_eq_true rfl), (Nat.le_of_ble_eq_true rfl)⟩)) (fun r2 hw => ?_)
    have hw : r2 = nI ys.length := hw
    subst r2
    refine lv_icmp_ge (tgt := 57) hx hb d_PM_where_28 (by decide) (fun c0 => absurd c0 (nI_ge (by omega) (by omega))) (fun _ => ?_)
    refine lv_aload_n hx hb d_PM_where_31 rfl (lv_at hl 0 rfl) ?_
    refine pz_get (ci := 4) (C := "PageMaker") (T := T_PM) (N := 4) hx hb htb in_PM hown hK hP hp hfp rfl 1 (by decide) (htb _ tw_161) (fun _ h9 => h9) rfl d_PM_where_32 ?_
    refine lv_iload_n hx hb d_PM_where_35 rfl (lv_at hl 2 rfl) ?_
    refine va_csq (va_Run.run (va_runV (As := [.int (nI k)]) (rest := []) ⟨hx, hb, hml, hown, hts⟩ (al_get l G L f _ el ed ys k y h_el hy9) (cwV 1 hts (tb_V tw_390 tw_391 tw_392 tw_4 tw_393) rfl rfl rfl (by decide +kernel) ⟨(Nat.le_of_ble_eq_true rfl), (Nat.le_of_ble_eq_true rfl)⟩) (pz_preV (zz_ok _ _ _) hK hP hD hS hA hz (ci := 0) rfl rfl hm_el hc_el) rfl rfl hl.1 rfl (lv_room (Nat.le_of_ble_eq_true rfl)) d_PM_where_36 ⟨(Nat.le_of_ble_eq_true rfl), (Nat.le_of_ble_eq_true rfl)⟩)) (fun r3 hw => ?_)
    have hw : r3 = some y := hw
    subst hw
    refine W.eq (g2 := F0 m 39 ls [.ref y]) rfl ?_
    refine va_castE hx hb hown (htb _ tw_446) (pz_recv hK hP (ci := 9) rfl hyL hfy) d_PM_where_39 ?_
    refine lv_iload_n hx hb d_PM_where_42 rfl (lv_at hl 1 rfl) ?_
    refine vp_callSi (va_Run.run (va_runV (As := [.int i]) (rest := []) ⟨hx, hb, hml, hown, hts⟩ (c_EP_holds l G L f _ y z9 pg.2.1 pg.2.2.1 pg.2.2.2.1 pg.2.2.2.2.1 pg.2.2.2.2.2.1 pg.2.2.2.2.2.2.2.1 i pg.2.2.2.2.2.2.1 pg.2.2.2.2.2.2.2.2 hyL hfy) (cwV 1 hts (tb_V tw_639 tw_640 tw_641 tw_22 tw_642) rfl rfl rfl (by decide +kernel) ⟨(Nat.le_of_ble_eq_true rfl), (Nat.le_of_ble_eq_true rfl)⟩) (pz_preV (zz_ok _ _ _) hK hP hD hS hA hz (ci := 9) rfl rfl hyL hfy) rfl rfl hl.1 rfl (lv_room (Nat.le_of_ble_eq_true rfl)) d_PM_where_43 ⟨(Nat.le_of_ble_eq_true rfl), (Nat.le_of_ble_eq_true rfl)⟩)) (fun r4 hw => ?_)
    rcases (show k_b (pg.2.1 ≤ i ∧ i < pg.2.2.1) r4 from hw) with ⟨rfl, hq5⟩ | ⟨rfl, hq5⟩
    · refine lv_if_eq (tgt := 51) hx hb d_PM_where_46 (by decide) (fun c0 => absurd c0 (by decide)) (fun _ => ?_)
      refine lv_iload_n hx hb d_PM_where_49 rfl (lv_at hl 2 rfl) ?_
      exact pz_iretS hx hb hr rfl hlocks (hwh ▸ (if_pos hq5).symm) d_PM_where_50
    · refine lv_if_eq (tgt := 51) hx hb d_PM_where_46 (by decide) (fun _ => ?_) (fun c0 => absurd c0 (by decide))
      refine lv_iinc (v := nI (k + 1)) (lv' := [(2, .int (nI (k + 1))), (0, .ref pm), (1, .int i)]) hx hb d_PM_where_51 hl (k := 2) rfl (nI_1 k) (by decide) rfl (fun ls hl => ?_)
      refine lv_goto (tgt := 20) hx hb d_PM_where_54 (by decide) ?_
      exact ih (k + 1) ls (by omega) ((if_neg hq5).symm.trans hwh) (lv_sub hl [1, 2, 0] rfl)
set_option maxHeartbeats 4000000 in
set_option maxRecDepth 100000 in
/-- where(i) -/
theorem c_PM_where (l : Launch) (G : gG) (L : List Nat) (f : Nat → va_E) (sz : Nat) (pm al ad el ed fr op to sa fo : Nat) (xs ys : List Nat) (its : List It) (F9 : Fr) (pgs : List (Fr × Pg)) (F : Fr) (P : Op) (T : Tt) (i : Int32) (hR : RX G L f pm al ad el ed fr op to sa fo xs ys (its, F9, pgs, F, P, T)) (hpg : pgs.length ≤ 512) (hi : 0 ≤ i ∧ i < nI its.length) : sI l y_PM_where w_PM_where ({ frames := 3, cells := 0, slots := 0, locals := 64 }) G L f sz [.ref pm, .int i] (fun r => r = wh_v pgs i 0) := by
  refine pz_met (cc := prog_1_method_11_code) (maxL := 3) (ret := (some .int)) (by decide) rfl (Nat.le_of_ble_eq_true rfl) ?_
  intro p e s m below meth c ls hx hb hr hml hts hown hlocks hin hsz hK hP hD hS hA hz hl
  have htb : ∀ w ∈ TB, w.before _ s = true := fun w h => hts w (List.mem_cons_of_mem _ h)
  have hl : lv_has ls 3 [(0, .ref pm), (1, .int i)] := hl
  obtain ⟨hp, hfp, h_al, h_el, hne9, hdd, hX, hY, hr9, hfr, ho, hfo, ht, hft, hs9, hsa, hr8, hfof⟩ := id hR
  have hX : XR L f xs its := hX
  have hY : YR L f ys pgs := hY
  have hfr : f fr = frE F9 := hfr
  have hfo : f op = opE to fo P := hfo
  have hft : f to = toE sa T := hft
  have hsa : f sa = saE G T := hsa
  have hfof : f fo = frE F := hfof
  obtain ⟨mo_al, hm_al, hc_al, -⟩ := id h_al
  obtain ⟨mo_el, hm_el, hc_el, -⟩ := id h_el
  have hxl : xs.length = its.length := hX.1
  refine lv_aload_n hx hb d_PM_where_0 rfl (lv_at hl 0 rfl) ?_
  refine lv_iload_n hx hb d_PM_where_1 rfl (lv_at hl 1 rfl) ?_
  refine vp_callSi (va_Run.run (va_runV (As := [.int i]) (rest := []) ⟨hx, hb, hml, hown, hts⟩ (c_PM_isItem l G L f _ pm al el fr op ad xs i hp hfp h_al) (cwV 1 hts (tb_V tw_386 tw_388 tp_7 tw_1 tw_389) rfl rfl rfl (by decide +kernel) ⟨(Nat.le_of_ble_eq_true rfl), (Nat.le_of_ble_eq_true rfl)⟩) (pz_preV (zz_ok _ _ _) hK hP hD hS hA hz (ci := 4) rfl rfl hp hfp) rfl rfl hl.1 rfl (lv_room (Nat.le_of_ble_eq_true rfl)) d_PM_where_2 ⟨(Nat.le_of_ble_eq_true rfl), (Nat.le_of_ble_eq_true rfl)⟩)) (fun r1 hw => ?_)
  have hw : r1 = 1 := k_by (show k_b (0 ≤ i ∧ i < nI xs.length) r1 from hw) (by rw [hxl]; exact hi)
  subst hw
  refine lv_if_ne (tgt := 18) hx hb d_PM_where_5 (by decide) (fun _ => ?_) (fun c0 => absurd c0 (by decide))
  refine lv_iconst (v := 0) hx hb d_PM_where_18 (by decide) ?_
  refine lv_istore_n (lv' := [(2, .int 0), (0, .ref pm), (1, .int i)]) hx hb d_PM_where_19 rfl hl (by decide) rfl (fun ls hl => ?_)
  exact lp_where l G L f sz pm al ad el ed fr op to sa fo xs ys its F9 pgs F P T i hx hb hr hml hts hown hlocks hK hP hD hS hA hz hR hpg pgs.length 0 ls (by omega) rfl (lv_sub hl [1, 2, 0] rfl)
set_option maxHeartbeats 4000000 in
set_option maxRecDepth 100000 in
/-- where throws -/
theorem x_PM_where (l : Launch) (hl9 : l.stackTraces = false) (G : gG) (L : List Nat) (f : Nat → va_E) (sz : Nat) (pm al ad el ed fr op to sa fo : Nat) (xs ys : List Nat) (its : List It) (F9 : Fr) (pgs : List (Fr × Pg)) (F : Fr) (P : Op) (T : Tt) (i : Int32) (hR : RX G L f pm al ad el ed fr op to sa fo xs ys (its, F9, pgs, F, P, T)) (hno : ¬ (0 ≤ i ∧ i < nI its.length)) : mX l y_PM_where w_PM_where ({ frames := 6, cells := 1, slots := 6, locals := 82 }) G L f sz [.ref pm, .int i] "java/lang/IndexOutOfBoundsException" := by
  refine pz_metX (cc := prog_1_method_11_code) (maxL := 3) (ret := (some .int)) (by decide) rfl (Nat.le_of_ble_eq_true rfl) ?_
  intro p e s m below meth c ls hx hb hr hml hts hown hlocks hnt hsz hK hP hD hS hA hz hl
  have htb : ∀ w ∈ TB, w.before _ s = true := fun w h => hts w (List.mem_cons_of_mem _ h)
  have hl : lv_has ls 3 [(0, .ref pm), (1, .int i)] := hl
  obtain ⟨hp, hfp, h_al, h_el, hne9, hdd, hX, hY, hr9, hfr, ho, hfo, ht, hft, hs9, hsa, hr8, hfof⟩ := id hR
  have hX : XR L f xs its := hX
  have hY : YR L f ys pgs := hY
  have hfr : f fr = frE F9 := hfr
  have hfo : f op = opE to fo P := hfo
  have hft : f to = toE sa T := hft
  have hsa : f sa = saE G T := hsa
  have hfof : f fo = frE F := hfof
  obtain ⟨mo_al, hm_al, hc_al, -⟩ := id h_al
  obtain ⟨mo_el, hm_el, hc_el, -⟩ := id h_el
  have hxl : xs.length = its.length := hX.1
  refine lv_aload_n hx hb d_PM_where_0 rfl (lv_at hl 0 rfl) ?_
  refine lv_iload_n hx hb d_PM_where_1 rfl (lv_at hl 1 rfl) ?_
  refine vp_callSi (va_Run.run (va_runV (As := [.int i]) (rest := []) ⟨hx, hb, hml, hown, hts⟩ (c_PM_isItem l G L f _ pm al el fr op ad xs i hp hfp h_al) (cwV 1 hts (tb_V tw_386 tw_388 tp_7 tw_1 tw_389) rfl rfl rfl (by decide +kernel) ⟨(Nat.le_of_ble_eq_true rfl), (Nat.le_of_ble_eq_true rfl)⟩) (pz_preV (zz_ok _ _ _) hK hP hD hS hA hz (ci := 4) rfl rfl hp hfp) rfl rfl hl.1 rfl (lv_room (Nat.le_of_ble_eq_true rfl)) d_PM_where_2 ⟨(Nat.le_of_ble_eq_true rfl), (Nat.le_of_ble_eq_true rfl)⟩)) (fun r1 hw => ?_)
  have hw : r1 = 0 := k_bn (show k_b (0 ≤ i ∧ i < nI xs.length) r1 from hw) (by rw [hxl]; exact hno)
  subst hw
  refine lv_if_ne (tgt := 18) hx hb d_PM_where_5 (by decide) (fun c0 => absurd c0 (by decide)) (fun _ => ?_)
  exact pz_thr 166 "no such item" 127 131 hx hb hl9 hown (by decide +kernel) htb hz hnt hlocks hK hP hD hS tw_615 tw_26 at_IOB1 at_IOB2 at_IOB3 (by decide +kernel) hml hl.1 d_PM_where_8 d_PM_where_11 d_PM_where_12 d_PM_where_14 d_PM_where_17 (Nat.le_of_ble_eq_true rfl) (Nat.le_of_ble_eq_true rfl) (Nat.le_of_ble_eq_true rfl) (Nat.le_of_ble_eq_true rfl) (Nat.le_of_ble_eq_true rfl) (Nat.le_of_ble_eq_true rfl)
