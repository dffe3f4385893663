/-! THE LAW: what holds between two calls; its cases -/
def LI (G : gG) (L : List Nat) (f : Nat → va_E) (pm out : Nat) (M : MS) (S : CS) (n : Nat) : Prop := (∃ (al ad el ed fr op to sa fo : Nat) (xs ys : List Nat), RX G L f pm al ad el ed fr op to sa fo xs ys S) ∧ (∃ g : Nat → Int64, f out = .inl (cJ G, 1, .inr (.inl g))) ∧ J S S.1.length ∧ MR M S ∧ S.1.length ≤ n
theorem law_sld {p : Program} {l : Launch} {e : Env} {R : Room} {s : State} {m : MethodId} {args : Array Value} {below : List Frame} {meth : Method} {c : Code} {H : Heap} {locs : List Loc} {cells slots : Nat} {Q : State → Prop} {cc : ByteArray} {pc : Nat} {ls : Array Slot} {rest : List Value} {A : Nat → Prop} {H0 : Heap} {b L j : Nat} {xs : Nat → Int32} {v : Int32} (hv : v = xs j) (hexec : p.tables.exec = Jvm.exec) (hb : c.code = cc) (hX : va_X b L xs s H0) (hbl : b < H0.size) (hbA : ¬ A b) (hS : va_S A H0 H locs) (hj : j < L) (hL : L < 2 ^ 31) (hdg : decode cc pc = .ok (.iaload, 1))
    (k : W p l e R s m args below meth c H locs cells slots Q (F0 m (pc + 1) ls (.int v :: rest))) : W p l e R s m args below meth c H locs cells slots Q (F0 m pc ls (.int (nI j) :: .ref b :: rest)) := by
  refine va_sld hexec hb hX hbl hbA hS (vp_in_nI hj hL) hdg ?_
  rw [nI_clamp (by omega), ← hv]
  exact k
theorem c_step_its (S : CS) (k : Nat) (it : It) : (c_step S k it).1.1 = S.1 := by
  unfold c_step
  split <;> rfl
theorem c_run_its (n : Nat) : ∀ (S : CS) (k : Nat), (c_run n S k).1.1 = S.1 := by
  induction n with
  | zero => intro S k; rfl
  | succ n ih =>
    intro S k
    rw [c_run.eq_def]
    simp only []
    cases hi : S.1[k]? with
    | none => rfl
    | some it => exact (ih _ _).trans (c_step_its S k it)
theorem mr_0 : MR M_0 c_0 := ⟨⟨⟨rfl, by decide, fun i it h => absurd h (by simp [c_0])⟩, rfl, rfl, rfl, rfl, fun i pg h => absurd h (by simp [c_0])⟩, Or.inl ⟨rfl, rfl, rfl, rfl⟩⟩
theorem j_0 : J c_0 c_0.1.length := ⟨fun i it h => absurd h (by simp [c_0]), by decide, ⟨⟨by decide, by decide⟩, ⟨by decide, by decide⟩, ⟨by decide, by decide⟩⟩, ⟨fun i pg h => absurd h (by simp [c_0]), fun i k p q _ h => absurd h (by simp [c_0])⟩, by decide, Or.inl ⟨rfl, rfl, Nat.le_refl _, fun i pg h => absurd h (by simp [c_0])⟩⟩
set_option maxHeartbeats 4000000 in
set_option maxRecDepth 100000 in
/-- the law: box -/
theorem lw_box {p : Program} {e : Env} {s : State} {m : MethodId} {below : List Frame} {meth : Method} {c : Code} (l : Launch) (hl9 : l.stackTraces = false) {b Ln : Nat} {xs : Nat → Int32} (hL : Ln ≤ 2560) (C0 : lw_At p s m meth c b Ln xs) (G : gG) (hK : va_K (gD G) cls9 (gT G) s) (hz : gZ G (fun q : Nat => s.heap.size ≤ q) s s.heap) (A : Nat → Nat) (hA9 : mJn A) (pm out : Nat) (n : Nat) (hn : 5 * n + 5 ≤ Ln) (L : List Nat) (f : Nat → va_E) (M : MS) (S : CS) (hI : LI G L f pm out M S n) (H : Heap) (locs : List Loc) (hP : va_P (gD G) cls9 (va_pl (LM A) (mF G A M) ++ va_pl (out :: L) f) H) (hD : va_D (fun q : Nat => s.heap.size ≤ q) (va_pl (LM A) (mF G A M) ++ va_pl (out :: L) f)) (hS : va_S (fun q : Nat => s.heap.size ≤ q) s.heap H locs) (ls : Array Slot) (hl : lv_has ls 8 [(0, .ref b), (1, .ref pm), (2, .ref (A 0)), (3, .ref out), (4, .int (nI (5 * n)))]) (kk : ∀ (L1 : List Nat) (f1 : Nat → va_E) (M1 : MS) (S1 : CS) (H1 : Heap) (locs1 : List Loc) (ls1 : Array Slot), LI G L1 f1 pm out M1 S1 (n + 1) → va_P (gD G) cls9 (va_pl (LM A) (mF G A M1) ++ va_pl (out :: L1) f1) H1 → va_D (fun q : Nat => s.heap.size ≤ q) (va_pl (LM A) (mF G A M1) ++ va_pl (out :: L1) f1) → va_S (fun q : Nat => s.heap.size ≤ q) s.heap H1 locs1 → lv_has ls1 8 [(0, .ref b), (1, .ref pm), (2, .ref (A 0)), (3, .ref out), (4, .int (nI (5 * n)))] → W p l e room_1 s m #[Value.ref b] below meth c H1 locs1 (22 + 2 * (n + 1) + 7 * S1.2.2.1.length) (24067 + 904 * (n + 1) + 933 * S1.2.2.1.length) (lw_Z below #[Value.ref b] s) (F0 m 711 ls1 [])) :
    W p l e room_1 s m #[Value.ref b] below meth c H locs (22 + 2 * n + 7 * S.2.2.1.length) (24067 + 904 * n + 933 * S.2.2.1.length) (lw_Z below #[Value.ref b] s) (F0 m 156 ls []) := by
  obtain ⟨hx, hb, hr, hml, hown, hts0, hX, hbl, hlocks, hgv⟩ := id C0
  have hA : ∀ q : Nat, s.heap.size ≤ q → (fun q : Nat => s.heap.size ≤ q) q := fun _ h => h
  have hbA : ¬ (fun q : Nat => s.heap.size ≤ q) b := Nat.not_le.mpr hbl
  have htb : ∀ w ∈ TB, w.before #[Value.ref b] s = true := fun w h => hts0 w (List.mem_filter.mp h).1
  have hts : ∀ w ∈ (Cond.initialized "PageMaker" :: TB), w.before #[Value.ref b] s = true := fun w h => (List.mem_cons.mp h).elim (fun e9 => e9 ▸ htb _ tw_1) (htb w)
  obtain ⟨its, F9, pgs, F, P, T⟩ := S
  obtain ⟨⟨al, ad, el, ed, fr, op, to, sa, fo, xs9, ys, hR⟩, ⟨g, hout⟩, hJ, hM, hln⟩ := id hI
  have hln : its.length ≤ n := hln
  show W p l e room_1 s m #[Value.ref b] below meth c H locs (22 + 2 * n + 7 * pgs.length) (24067 + 904 * n + 933 * pgs.length) (lw_Z below #[Value.ref b] s) (F0 m 156 ls [])
  have hp5 : pgs.length ≤ 512 := j_pgs hJ
  have hn5 : its.length < 512 := by omega
  obtain ⟨v1, hv19⟩ : ∃ v, v = xs (5 * n + 1) := ⟨_, rfl⟩
  obtain ⟨v2, hv29⟩ : ∃ v, v = xs (5 * n + 2) := ⟨_, rfl⟩
  obtain ⟨v3, hv39⟩ : ∃ v, v = xs (5 * n + 3) := ⟨_, rfl⟩
  by_cases hok : 0 ≤ v1 ∧ k_isS v2 ∧ k_isS v3
  · obtain ⟨hq0, hq1, hq2⟩ := id hok
    have hJi : J (its ++ [.inl (v2, v3)], F9, pgs, F, P, T) its.length := j_in (S := (its, F9, pgs, F, P, T)) (x := .inl (v2, v3)) hJ hn5 ⟨hq1, hq2⟩
    have hJr := j_run 4004001 _ _ hJi
    have hmo : pgs.length ≤ (c_run 4004001 (its ++ [.inl (v2, v3)], F9, pgs, F, P, T) its.length).1.2.2.1.length := c_run_mono 4004001 (its ++ [.inl (v2, v3)], F9, pgs, F, P, T) its.length
    have hpr : (c_run 4004001 (its ++ [.inl (v2, v3)], F9, pgs, F, P, T) its.length).1.2.2.1.length ≤ 512 := j_pgs hJr
    have hit9 : (c_run 4004001 (its ++ [.inl (v2, v3)], F9, pgs, F, P, T) its.length).1.1 = its ++ [.inl (v2, v3)] := c_run_its 4004001 (its ++ [.inl (v2, v3)], F9, pgs, F, P, T) its.length
    obtain ⟨PN, hPN⟩ : ∃ PN, PN = (c_run 4004001 (its ++ [.inl (v2, v3)], F9, pgs, F, P, T) its.length).1.2.2.1.length := ⟨_, rfl⟩
    refine lv_aload_n hx hb d_LW_law_156 rfl (lv_at hl 1 rfl) ?_
    refine lv_aload_n hx hb d_LW_law_157 rfl (lv_at hl 0 rfl) ?_
    refine lv_iload hx hb d_LW_law_158 (lv_at hl 4 rfl) ?_
    refine lv_iconst (v := 1) hx hb d_LW_law_160 (by decide) ?_
    refine lv_iadd hx hb d_LW_law_161 ?_
    refine lv_topi (fun x1 ex1 => ?_)
    have ex1 : x1 = nI (5 * n + 1) := ex1.trans (nI_add (5 * n) 1)
    subst ex1
    refine law_sld (j := (5 * n + 1)) (v := v1) hv19 hx hb hX hbl hbA hS (by omega) (by omega) d_LW_law_162 ?_
    refine lv_aload_n hx hb d_LW_law_163 rfl (lv_at hl 0 rfl) ?_
    refine lv_iload hx hb d_LW_law_164 (lv_at hl 4 rfl) ?_
    refine lv_iconst (v := 2) hx hb d_LW_law_166 (by decide) ?_
    refine lv_iadd hx hb d_LW_law_167 ?_
    refine lv_topi (fun x2 ex2 => ?_)
    have ex2 : x2 = nI (5 * n + 2) := ex2.trans (nI_add (5 * n) 2)
    subst ex2
    refine law_sld (j := (5 * n + 2)) (v := v2) hv29 hx hb hX hbl hbA hS (by omega) (by omega) d_LW_law_168 ?_
    refine lv_aload_n hx hb d_LW_law_169 rfl (lv_at hl 0 rfl) ?_
    refine lv_iload hx hb d_LW_law_170 (lv_at hl 4 rfl) ?_
    refine lv_iconst (v := 3) hx hb d_LW_law_172 (by decide) ?_
    refine lv_iadd hx hb d_LW_law_173 ?_
    refine lv_topi (fun x3 ex3 => ?_)
    have ex3 : x3 = nI (5 * n + 3) := ex3.trans (nI_add (5 * n) 3)
    subst ex3
    refine law_sld (j := (5 * n + 3)) (v := v3) hv39 hx hb hX hbl hbA hS (by omega) (by omega) d_LW_law_174 ?_
    refine lv_aload_n hx hb d_LW_law_175 rfl (lv_at hl 3 rfl) ?_
    refine pz_ci (vx_runSW (As := [.ref pm, .int v1, .int v2, .int v3, .ref out]) (rest := []) ⟨hx, hb, hml, hown, hts⟩ (c_LW_box l G L f _ pm al ad el ed fr op to sa fo xs9 ys its F9 pgs F P T out g v1 v2 v3 hR hout hq0 hq1 hq2 hn5 hp5 (j_ok _ _ _ hJi)) (vx_cwSW 5 hts (tb_SS tw_269 tw_270 tw_0 tw_271) rfl rfl rfl (by decide +kernel) ⟨(Nat.le_of_ble_eq_true rfl), (Nat.le_of_ble_eq_true rfl)⟩) (pz_pre (zz_ok _ _ _) hK hP hD hS hA hz) rfl rfl hl.1 rfl (lv_room (Nat.le_of_ble_eq_true rfl)) d_LW_law_176 ⟨(by rw [← hPN]; show _ ≤ 601024; omega), (by rw [← hPN]; show _ ≤ 7293034; omega)⟩) hP hD hS hA (fun r9 L9 f9 H locs hw hP hD hS => ?_)
    obtain ⟨er9, L1, g1, eL1, ho1, hg1, ad1, ed1, op1, to1, sa1, fo1, xs1, ys1, hR1⟩ := hw
    subst er9
    have eL1 : L9 = out :: L1 := eL1
    subst eL1
    rw [← hPN]
    rw [← hPN] at hg1 hmo hpr
    refine lv_istore (lv' := [(5, .int 0), (0, .ref b), (1, .ref pm), (2, .ref (A 0)), (3, .ref out), (4, .int (nI (5 * n)))]) hx hb d_LW_law_179 hl (by decide) rfl (fun ls hl => ?_)
    refine lv_aload_n hx hb d_LW_law_181 rfl (lv_at hl 3 rfl) ?_
    refine lv_aload_n hx hb d_LW_law_182 rfl (lv_at hl 1 rfl) ?_
    refine lv_iload hx hb d_LW_law_183 (lv_at hl 5 rfl) ?_
    refine lv_iconst (v := 1) hx hb d_LW_law_185 (by decide) ?_
    refine lv_iadd hx hb d_LW_law_186 ?_
    refine lv_topi (fun x4 ex4 => ?_)
    have ex4 : x4 = nI (5 * n + 1) := ex4.trans (nI_add (5 * n) 1)
    subst ex4
    refine law_sld (j := (5 * n + 1)) (v := v1) hv19 hx hb hX hbl hbA hS (by omega) (by omega) d_LW_law_187 ?_
    refine lv_aload_n hx hb d_LW_law_188 rfl (lv_at hl 1 rfl) ?_
    refine lv_iload hx hb d_LW_law_189 (lv_at hl 5 rfl) ?_
    refine lv_iconst (v := 2) hx hb d_LW_law_191 (by decide) ?_
    refine lv_iadd hx hb d_LW_law_192 ?_
    refine lv_topi (fun x5 ex5 => ?_)
    have ex5 : x5 = nI (5 * n + 2) := ex5.trans (nI_add (5 * n) 2)
    subst ex5
    refine law_sld (j := (5 * n + 2)) (v := v2) hv29 hx hb hX hbl hbA hS (by omega) (by omega) d_LW_law_193 ?_
    refine lv_aload_n hx hb d_LW_law_194 rfl (lv_at hl 1 rfl) ?_
    refine lv_iload hx hb d_LW_law_195 (lv_at hl 5 rfl) ?_
    refine lv_iconst (v := 3) hx hb d_LW_law_197 (by decide) ?_
    refine lv_iadd hx hb d_LW_law_198 ?_
    refine lv_topi (fun x6 ex6 => ?_)
    have ex6 : x6 = nI (5 * n + 3) := ex6.trans (nI_add (5 * n) 3)
    subst ex6
    refine law_sld (j := (5 * n + 3)) (v := v3) hv39 hx hb hX hbl hbA hS (by omega) (by omega) d_LW_law_199 ?_
    have hP : va_P (gD G) cls9 (va_pl (out :: L1) f9 ++ va_pl (LM A) (mF G A M)) H := va_P.swap (a := []) hP
    have hD : va_D (fun q : Nat => s.heap.size ≤ q) (va_pl (out :: L1) f9 ++ va_pl (LM A) (mF G A M)) := va_D.swap (a := []) hD
    refine pz_ci (va_runV (As := [.int v1, .int v2, .int v3]) (rest := []) ⟨hx, hb, hml, hown, hts⟩ (c_MD_box l G A hA9 M _ (its, F9, pgs, F, P, T) v1 v2 v3 hJ hM hn5 hq0 hq1 hq2) (cwV 3 hts (tb_V tw_777 tw_778 tw_779 tw_8 tw_780) rfl rfl rfl (by decide +kernel) ⟨(Nat.le_of_ble_eq_true rfl), (Nat.le_of_ble_eq_true rfl)⟩) (pz_preV (zz_ok _ _ _) hK hP hD hS hA hz (ci := 10) rfl rfl (lm_in (by decide)) (mf_at hA9 M 0 (by decide))) rfl rfl hl.1 rfl (lv_room (Nat.le_of_ble_eq_true rfl)) d_LW_law_200 ⟨(by show _ ≤ 601024; omega), (by show _ ≤ 7293034; omega)⟩) hP hD hS hA (fun r7 L8 f8 H locs hw hP hD hS => ?_)
    obtain ⟨M1, S9, hu, hrun, hMR, hr7, hth⟩ := hw
    have hrun : (c_run 4004001 (its ++ [.inl (v2, v3)], F9, pgs, F, P, T) its.length) = (S9, S9.1.length) := hrun
    rw [hrun] at hPN hR1 hJr hit9
    have hPN : PN = S9.2.2.1.length := hPN
    have er7 : r7 = nI PN := hr7.trans (by rw [hPN])
    subst er7
    have eL8 : L8 = LM A := (Prod.mk.inj hu).1
    have ef8 : f8 = mF G A M1 := (Prod.mk.inj hu).2
    subst eL8
    subst ef8
    refine lv_istore (lv' := [(6, .int (nI PN)), (5, .int 0), (0, .ref b), (1, .ref pm), (2, .ref (A 0)), (3, .ref out), (4, .int (nI (5 * n)))]) hx hb d_LW_law_203 hl (by decide) rfl (fun ls hl => ?_)
    refine lv_aload_n hx hb d_LW_law_205 rfl (lv_at hl 4 rfl) ?_
    refine vp_callSi (va_Run.run (va_runV (As := []) (rest := []) ⟨hx, hb, hml, hown, hts⟩ (c_MD_thrown l G A hA9 M1 _) (cwV 0 hts (tb_V tw_762 tw_763 tw_764 tw_8 tw_765) rfl rfl rfl (by decide +kernel) ⟨(Nat.le_of_ble_eq_true rfl), (Nat.le_of_ble_eq_true rfl)⟩) (pz_preV (zz_ok _ _ _) hK hP hD hS hA hz (ci := 10) rfl rfl (lm_in (by decide)) (mf_at hA9 M1 0 (by decide))) rfl rfl hl.1 rfl (lv_room (Nat.le_of_ble_eq_true rfl)) d_LW_law_206 ⟨(by show _ ≤ 601024; omega), (by show _ ≤ 7293034; omega)⟩)) (fun r7 hw => ?_)
    have hw : r7 = 0 := hw.trans hth
    subst hw
    refine lv_iload hx hb d_LW_law_209 (lv_at hl 1 rfl) ?_
    refine lv_icmp_eq (tgt := 216) hx hb d_LW_law_211 (by decide) (fun _ => ?_) (fun c0 => absurd c0 (by decide))
    refine lv_iload hx hb d_LW_law_216 (lv_at hl 1 rfl) ?_
    refine lv_if_ne (tgt := 233) hx hb d_LW_law_218 (by decide) (fun c0 => absurd c0 (by decide)) (fun _ => ?_)
    have hP : va_P (gD G) cls9 (va_pl (LM A) (mF G A M1) ++ va_pl (out :: L1) f9) H := va_P.swap (a := []) hP
    have hD : va_D (fun q : Nat => s.heap.size ≤ q) (va_pl (LM A) (mF G A M1) ++ va_pl (out :: L1) f9) := va_D.swap (a := []) hD
    refine lv_aload_n hx hb d_LW_law_221 rfl (lv_at hl 5 rfl) ?_
    refine lv_iconst (v := 0) hx hb d_LW_law_222 (by decide) ?_
    have hin8 : vp_in 0 1 := vp_in_nI (n := 0) (N := 1) (by decide) (by decide)
    refine pz_lald hx hb hK hP 1 (List.mem_cons_self) ho1 rfl hin8 d_LW_law_223 ?_
    refine lv_topl (fun x9 (ex9 : x9 = g1 0) => ?_)
    subst ex9
    refine lv_iload hx hb d_LW_law_224 (lv_at hl 0 rfl) ?_
    refine lv_i2l hx hb d_LW_law_226 rfl ?_
    refine pz_leq (tgt := 233) hx hb d_LW_law_227 d_LW_law_228 (by decide) (fun _ => ?_) (fun c0 => absurd hg1 c0)
    have hl9 : S9.1.length = its.length + 1 := by rw [show S9.1 = its ++ [.inl (v2, v3)] from hit9, List.length_append]; rfl
    refine lv_goto (tgt := 711) hx hb d_LW_law_233 (by decide) ?_
    refine W.widen (k := 22 + 2 * (n + 1) + 7 * S9.2.2.1.length) (n := 24067 + 904 * (n + 1) + 933 * S9.2.2.1.length) (by omega) (by omega) ?_
    exact kk L1 f9 M1 S9 H locs ls ⟨⟨al, ad1, el, ed1, fr, op1, to1, sa1, fo1, xs1, ys1, hR1⟩, ⟨g1, ho1⟩, hJr, hMR, by omega⟩ hP hD hS (lv_sub hl [2, 3, 4, 5, 6] rfl)
  · refine lv_aload_n hx hb d_LW_law_156 rfl (lv_at hl 1 rfl) ?_
    refine lv_aload_n hx hb d_LW_law_157 rfl (lv_at hl 0 rfl) ?_
    refine lv_iload hx hb d_LW_law_158 (lv_at hl 4 rfl) ?_
    refine lv_iconst (v := 1) hx hb d_LW_law_160 (by decide) ?_
    refine lv_iadd hx hb d_LW_law_161 ?_
    refine lv_topi (fun x10 ex10 => ?_)
    have ex10 : x10 = nI (5 * n + 1) := ex10.trans (nI_add (5 * n) 1)
    subst ex10
    refine law_sld (j := (5 * n + 1)) (v := v1) hv19 hx hb hX hbl hbA hS (by omega) (by omega) d_LW_law_162 ?_
    refine lv_aload_n hx hb d_LW_law_163 rfl (lv_at hl 0 rfl) ?_
    refine lv_iload hx hb d_LW_law_164 (lv_at hl 4 rfl) ?_
    refine lv_iconst (v := 2) hx hb d_LW_law_166 (by decide) ?_
    refine lv_iadd hx hb d_LW_law_167 ?_
    refine lv_topi (fun x11 ex11 => ?_)
    have ex11 : x11 = nI (5 * n + 2) := ex11.trans (nI_add (5 * n) 2)
    subst ex11
    refine law_sld (j := (5 * n + 2)) (v := v2) hv29 hx hb hX hbl hbA hS (by omega) (by omega) d_LW_law_168 ?_
    refine lv_aload_n hx hb d_LW_law_169 rfl (lv_at hl 0 rfl) ?_
    refine lv_iload hx hb d_LW_law_170 (lv_at hl 4 rfl) ?_
    refine lv_iconst (v := 3) hx hb d_LW_law_172 (by decide) ?_
    refine lv_iadd hx hb d_LW_law_173 ?_
    refine lv_topi (fun x12 ex12 => ?_)
    have ex12 : x12 = nI (5 * n + 3) := ex12.trans (nI_add (5 * n) 3)
    subst ex12
    refine law_sld (j := (5 * n + 3)) (v := v3) hv39 hx hb hX hbl hbA hS (by omega) (by omega) d_LW_law_174 ?_
    refine lv_aload_n hx hb d_LW_law_175 rfl (lv_at hl 3 rfl) ?_
    refine pz_ci (vx_runSW (As := [.ref pm, .int v1, .int v2, .int v3, .ref out]) (rest := []) ⟨hx, hb, hml, hown, hts⟩ (x_LW_box l hl9 G L f _ pm al ad el ed fr op to sa fo xs9 ys its F9 pgs F P T out g v1 v2 v3 hR hout hok) (vx_cwSW 5 hts (tb_SS tw_269 tw_270 tw_0 tw_271) rfl rfl rfl (by decide +kernel) ⟨(Nat.le_of_ble_eq_true rfl), (Nat.le_of_ble_eq_true rfl)⟩) (pz_pre (zz_ok _ _ _) hK hP hD hS hA hz) rfl rfl hl.1 rfl (lv_room (Nat.le_of_ble_eq_true rfl)) d_LW_law_176 ⟨(by show _ ≤ 601024; omega), (by show _ ≤ 7293034; omega)⟩) hP hD hS hA (fun r9 L9 f9 H locs hw hP hD hS => ?_)
    obtain ⟨er9, hu⟩ := hw
    subst er9
    have eL9 : L9 = out :: L := (Prod.mk.inj hu).1
    have ef9 : f9 = f := (Prod.mk.inj hu).2
    rw [eL9, ef9] at hP hD
    refine lv_istore (lv' := [(5, .int 1), (0, .ref b), (1, .ref pm), (2, .ref (A 0)), (3, .ref out), (4, .int (nI (5 * n)))]) hx hb d_LW_law_179 hl (by decide) rfl (fun ls hl => ?_)
    refine lv_aload_n hx hb d_LW_law_181 rfl (lv_at hl 3 rfl) ?_
    refine lv_aload_n hx hb d_LW_law_182 rfl (lv_at hl 1 rfl) ?_
    refine lv_iload hx hb d_LW_law_183 (lv_at hl 5 rfl) ?_
    refine lv_iconst (v := 1) hx hb d_LW_law_185 (by decide) ?_
    refine lv_iadd hx hb d_LW_law_186 ?_
    refine lv_topi (fun x13 ex13 => ?_)
    have ex13 : x13 = nI (5 * n + 1) := ex13.trans (nI_add (5 * n) 1)
    subst ex13
    refine law_sld (j := (5 * n + 1)) (v := v1) hv19 hx hb hX hbl hbA hS (by omega) (by omega) d_LW_law_187 ?_
    refine lv_aload_n hx hb d_LW_law_188 rfl (lv_at hl 1 rfl) ?_
    refine lv_iload hx hb d_LW_law_189 (lv_at hl 5 rfl) ?_
    refine lv_iconst (v := 2) hx hb d_LW_law_191 (by decide) ?_
    refine lv_iadd hx hb d_LW_law_192 ?_
    refine lv_topi (fun x14 ex14 => ?_)
    have ex14 : x14 = nI (5 * n + 2) := ex14.trans (nI_add (5 * n) 2)
    subst ex14
    refine law_sld (j := (5 * n + 2)) (v := v2) hv29 hx hb hX hbl hbA hS (by omega) (by omega) d_LW_law_193 ?_
    refine lv_aload_n hx hb d_LW_law_194 rfl (lv_at hl 1 rfl) ?_
    refine lv_iload hx hb d_LW_law_195 (lv_at hl 5 rfl) ?_
    refine lv_iconst (v := 3) hx hb d_LW_law_197 (by decide) ?_
    refine lv_iadd hx hb d_LW_law_198 ?_
    refine lv_topi (fun x15 ex15 => ?_)
    have ex15 : x15 = nI (5 * n + 3) := ex15.trans (nI_add (5 * n) 3)
    subst ex15
    refine law_sld (j := (5 * n + 3)) (v := v3) hv39 hx hb hX hbl hbA hS (by omega) (by omega) d_LW_law_199 ?_
    have hP : va_P (gD G) cls9 (va_pl (out :: L) f ++ va_pl (LM A) (mF G A M)) H := va_P.swap (a := []) hP
    have hD : va_D (fun q : Nat => s.heap.size ≤ q) (va_pl (out :: L) f ++ va_pl (LM A) (mF G A M)) := va_D.swap (a := []) hD
    refine pz_ci (va_runV (As := [.int v1, .int v2, .int v3]) (rest := []) ⟨hx, hb, hml, hown, hts⟩ (x_MD_box l G A hA9 M _ v1 v2 v3 hok) (cwV 3 hts (tb_V tw_777 tw_778 tw_779 tw_8 tw_780) rfl rfl rfl (by decide +kernel) ⟨(Nat.le_of_ble_eq_true rfl), (Nat.le_of_ble_eq_true rfl)⟩) (pz_preV (zz_ok _ _ _) hK hP hD hS hA hz (ci := 10) rfl rfl (lm_in (by decide)) (mf_at hA9 M 0 (by decide))) rfl rfl hl.1 rfl (lv_room (Nat.le_of_ble_eq_true rfl)) d_LW_law_200 ⟨(by show _ ≤ 601024; omega), (by show _ ≤ 7293034; omega)⟩) hP hD hS hA (fun r7 L8 f8 H locs hw hP hD hS => ?_)
    obtain ⟨er7, hu⟩ := hw
    subst er7
    have eL8 : L8 = LM A := (Prod.mk.inj hu).1
    have ef8 : f8 = mF G A (M.si 0 1) := (Prod.mk.inj hu).2
    subst eL8
    subst ef8
    refine lv_istore (lv' := [(6, .int 0), (5, .int 1), (0, .ref b), (1, .ref pm), (2, .ref (A 0)), (3, .ref out), (4, .int (nI (5 * n)))]) hx hb d_LW_law_203 hl (by decide) rfl (fun ls hl => ?_)
    refine lv_aload_n hx hb d_LW_law_205 rfl (lv_at hl 4 rfl) ?_
    refine vp_callSi (va_Run.run (va_runV (As := []) (rest := []) ⟨hx, hb, hml, hown, hts⟩ (c_MD_thrown l G A hA9 (M.si 0 1) _) (cwV 0 hts (tb_V tw_762 tw_763 tw_764 tw_8 tw_765) rfl rfl rfl (by decide +kernel) ⟨(Nat.le_of_ble_eq_true rfl), (Nat.le_of_ble_eq_true rfl)⟩) (pz_preV (zz_ok _ _ _) hK hP hD hS hA hz (ci := 10) rfl rfl (lm_in (by decide)) (mf_at hA9 (M.si 0 1) 0 (by decide))) rfl rfl hl.1 rfl (lv_room (Nat.le_of_ble_eq_true rfl)) d_LW_law_206 ⟨(by show _ ≤ 601024; omega), (by show _ ≤ 7293034; omega)⟩)) (fun r16 hw => ?_)
    have hw : r16 = 1 := hw.trans rfl
    subst hw
    refine lv_iload hx hb d_LW_law_209 (lv_at hl 1 rfl) ?_
    refine lv_icmp_eq (tgt := 216) hx hb d_LW_law_211 (by decide) (fun _ => ?_) (fun c0 => absurd c0 (by decide))
    refine lv_iload hx hb d_LW_law_216 (lv_at hl 1 rfl) ?_
    refine lv_if_ne (tgt := 233) hx hb d_LW_law_218 (by decide) (fun _ => ?_) (fun c0 => absurd c0 (by decide))
    have hP : va_P (gD G) cls9 (va_pl (LM A) (mF G A (M.si 0 1)) ++ va_pl (out :: L) f) H := va_P.swap (a := []) hP
    have hD : va_D (fun q : Nat => s.heap.size ≤ q) (va_pl (LM A) (mF G A (M.si 0 1)) ++ va_pl (out :: L) f) := va_D.swap (a := []) hD
    refine lv_goto (tgt := 711) hx hb d_LW_law_233 (by decide) ?_
    refine W.widen (k := 22 + 2 * (n + 1) + 7 * pgs.length) (n := 24067 + 904 * (n + 1) + 933 * pgs.length) (by omega) (by omega) ?_
    exact kk L f (M.si 0 1) (its, F9, pgs, F, P, T) H locs ls ⟨⟨al, ad, el, ed, fr, op, to, sa, fo, xs9, ys, hR⟩, ⟨g, hout⟩, hJ, mr_th hM, by show its.length ≤ n + 1; omega⟩ hP hD hS (lv_sub hl [2, 3, 4, 5, 6] rfl)
set_option maxHeartbeats 4000000 in
set_option maxRecDepth 100000 in
/-- the law: glue -/
theorem lw_glue {p : Program} {e : Env} {s : State} {m : MethodId} {below : List Frame} {meth : Method} {c : Code} (l : Launch) (hl9 : l.stackTraces = false) {b Ln : Nat} {xs : Nat → Int32} (hL : Ln ≤ 2560) (C0 : lw_At p s m meth c b Ln xs) (G : gG) (hK : va_K (gD G) cls9 (gT G) s) (hz : gZ G (fun q : Nat => s.heap.size ≤ q) s s.heap) (A : Nat → Nat) (hA9 : mJn A) (pm out : Nat) (n : Nat) (hn : 5 * n + 5 ≤ Ln) (L : List Nat) (f : Nat → va_E) (M : MS) (S : CS) (hI : LI G L f pm out M S n) (H : Heap) (locs : List Loc) (hP : va_P (gD G) cls9 (va_pl (LM A) (mF G A M) ++ va_pl (out :: L) f) H) (hD : va_D (fun q : Nat => s.heap.size ≤ q) (va_pl (LM A) (mF G A M) ++ va_pl (out :: L) f)) (hS : va_S (fun q : Nat => s.heap.size ≤ q) s.heap H locs) (ls : Array Slot) (hl : lv_has ls 8 [(0, .ref b), (1, .ref pm), (2, .ref (A 0)), (3, .ref out), (4, .int (nI (5 * n)))]) (kk : ∀ (L1 : List Nat) (f1 : Nat → va_E) (M1 : MS) (S1 : CS) (H1 : Heap) (locs1 : List Loc) (ls1 : Array Slot), LI G L1 f1 pm out M1 S1 (n + 1) → va_P (gD G) cls9 (va_pl (LM A) (mF G A M1) ++ va_pl (out :: L1) f1) H1 → va_D (fun q : Nat => s.heap.size ≤ q) (va_pl (LM A) (mF G A M1) ++ va_pl (out :: L1) f1) → va_S (fun q : Nat => s.heap.size ≤ q) s.heap H1 locs1 → lv_has ls1 8 [(0, .ref b), (1, .ref pm), (2, .ref (A 0)), (3, .ref out), (4, .int (nI (5 * n)))] → W p l e room_1 s m #[Value.ref b] below meth c H1 locs1 (22 + 2 * (n + 1) + 7 * S1.2.2.1.length) (24067 + 904 * (n + 1) + 933 * S1.2.2.1.length) (lw_Z below #[Value.ref b] s) (F0 m 711 ls1 [])) :
    W p l e room_1 s m #[Value.ref b] below meth c H locs (22 + 2 * n + 7 * S.2.2.1.length) (24067 + 904 * n + 933 * S.2.2.1.length) (lw_Z below #[Value.ref b] s) (F0 m 236 ls []) := by
  obtain ⟨hx, hb, hr, hml, hown, hts0, hX, hbl, hlocks, hgv⟩ := id C0
  have hA : ∀ q : Nat, s.heap.size ≤ q → (fun q : Nat => s.heap.size ≤ q) q := fun _ h => h
  have hbA : ¬ (fun q : Nat => s.heap.size ≤ q) b := Nat.not_le.mpr hbl
  have htb : ∀ w ∈ TB, w.before #[Value.ref b] s = true := fun w h => hts0 w (List.mem_filter.mp h).1
  have hts : ∀ w ∈ (Cond.initialized "PageMaker" :: TB), w.before #[Value.ref b] s = true := fun w h => (List.mem_cons.mp h).elim (fun e9 => e9 ▸ htb _ tw_1) (htb w)
  obtain ⟨its, F9, pgs, F, P, T⟩ := S
  obtain ⟨⟨al, ad, el, ed, fr, op, to, sa, fo, xs9, ys, hR⟩, ⟨g, hout⟩, hJ, hM, hln⟩ := id hI
  have hln : its.length ≤ n := hln
  show W p l e room_1 s m #[Value.ref b] below meth c H locs (22 + 2 * n + 7 * pgs.length) (24067 + 904 * n + 933 * pgs.length) (lw_Z below #[Value.ref b] s) (F0 m 236 ls [])
  have hp5 : pgs.length ≤ 512 := j_pgs hJ
  have hn5 : its.length < 512 := by omega
  obtain ⟨v1, hv19⟩ : ∃ v, v = xs (5 * n + 1) := ⟨_, rfl⟩
  obtain ⟨v2, hv29⟩ : ∃ v, v = xs (5 * n + 2) := ⟨_, rfl⟩
  obtain ⟨v3, hv39⟩ : ∃ v, v = xs (5 * n + 3) := ⟨_, rfl⟩
  obtain ⟨v4, hv49⟩ : ∃ v, v = xs (5 * n + 4) := ⟨_, rfl⟩
  by_cases hok : k_isS v1 ∧ k_isZ v2 ∧ k_isZ v4 ∧ 0 ≤ v3 ∧ v3 < 4
  · obtain ⟨hq0, hq1, hq2, hq3, hq4⟩ := id hok
    have hJi : J (its ++ [.inr (.inl (v1, v2, v3, v4))], F9, pgs, F, P, T) its.length := j_in (S := (its, F9, pgs, F, P, T)) (x := .inr (.inl (v1, v2, v3, v4))) hJ hn5 ⟨hq1, hq2, vp_4 hq3 hq4, hq0⟩
    have hJr := j_run 4004001 _ _ hJi
    have hmo : pgs.length ≤ (c_run 4004001 (its ++ [.inr (.inl (v1, v2, v3, v4))], F9, pgs, F, P, T) its.length).1.2.2.1.length := c_run_mono 4004001 (its ++ [.inr (.inl (v1, v2, v3, v4))], F9, pgs, F, P, T) its.length
    have hpr : (c_run 4004001 (its ++ [.inr (.inl (v1, v2, v3, v4))], F9, pgs, F, P, T) its.length).1.2.2.1.length ≤ 512 := j_pgs hJr
    have hit9 : (c_run 4004001 (its ++ [.inr (.inl (v1, v2, v3, v4))], F9, pgs, F, P, T) its.length).1.1 = its ++ [.inr (.inl (v1, v2, v3, v4))] := c_run_its 4004001 (its ++ [.inr (.inl (v1, v2, v3, v4))], F9, pgs, F, P, T) its.length
    obtain ⟨PN, hPN⟩ : ∃ PN, PN = (c_run 4004001 (its ++ [.inr (.inl (v1, v2, v3, v4))], F9, pgs, F, P, T) its.length).1.2.2.1.length := ⟨_, rfl⟩
    refine lv_aload_n hx hb d_LW_law_236 rfl (lv_at hl 1 rfl) ?_
    refine lv_aload_n hx hb d_LW_law_237 rfl (lv_at hl 0 rfl) ?_
    refine lv_iload hx hb d_LW_law_238 (lv_at hl 4 rfl) ?_
    refine lv_iconst (v := 1) hx hb d_LW_law_240 (by decide) ?_
    refine lv_iadd hx hb d_LW_law_241 ?_
    refine lv_topi (fun x1 ex1 => ?_)
    have ex1 : x1 = nI (5 * n + 1) := ex1.trans (nI_add (5 * n) 1)
    subst ex1
    refine law_sld (j := (5 * n + 1)) (v := v1) hv19 hx hb hX hbl hbA hS (by omega) (by omega) d_LW_law_242 ?_
    refine lv_aload_n hx hb d_LW_law_243 rfl (lv_at hl 0 rfl) ?_
    refine lv_iload hx hb d_LW_law_244 (lv_at hl 4 rfl) ?_
    refine lv_iconst (v := 2) hx hb d_LW_law_246 (by decide) ?_
    refine lv_iadd hx hb d_LW_law_247 ?_
    refine lv_topi (fun x2 ex2 => ?_)
    have ex2 : x2 = nI (5 * n + 2) := ex2.trans (nI_add (5 * n) 2)
    subst ex2
    refine law_sld (j := (5 * n + 2)) (v := v2) hv29 hx hb hX hbl hbA hS (by omega) (by omega) d_LW_law_248 ?_
    refine lv_aload_n hx hb d_LW_law_249 rfl (lv_at hl 0 rfl) ?_
    refine lv_iload hx hb d_LW_law_250 (lv_at hl 4 rfl) ?_
    refine lv_iconst (v := 3) hx hb d_LW_law_252 (by decide) ?_
    refine lv_iadd hx hb d_LW_law_253 ?_
    refine lv_topi (fun x3 ex3 => ?_)
    have ex3 : x3 = nI (5 * n + 3) := ex3.trans (nI_add (5 * n) 3)
    subst ex3
    refine law_sld (j := (5 * n + 3)) (v := v3) hv39 hx hb hX hbl hbA hS (by omega) (by omega) d_LW_law_254 ?_
    refine lv_aload_n hx hb d_LW_law_255 rfl (lv_at hl 0 rfl) ?_
    refine lv_iload hx hb d_LW_law_256 (lv_at hl 4 rfl) ?_
    refine lv_iconst (v := 4) hx hb d_LW_law_258 (by decide) ?_
    refine lv_iadd hx hb d_LW_law_259 ?_
    refine lv_topi (fun x4 ex4 => ?_)
    have ex4 : x4 = nI (5 * n + 4) := ex4.trans (nI_add (5 * n) 4)
    subst ex4
    refine law_sld (j := (5 * n + 4)) (v := v4) hv49 hx hb hX hbl hbA hS (by omega) (by omega) d_LW_law_260 ?_
    refine lv_aload_n hx hb d_LW_law_261 rfl (lv_at hl 3 rfl) ?_
    refine pz_ci (vx_runSW (As := [.ref pm, .int v1, .int v2, .int v3, .int v4, .ref out]) (rest := []) ⟨hx, hb, hml, hown, hts⟩ (c_LW_glue l G L f _ pm al ad el ed fr op to sa fo xs9 ys its F9 pgs F P T out g v1 v2 v3 v4 hR hout hq0 hq1 hq2 hq3 hq4 hn5 hp5 (j_ok _ _ _ hJi)) (vx_cwSW 6 hts (tb_SS tw_540 tw_541 tw_0 tw_542) rfl rfl rfl (by decide +kernel) ⟨(Nat.le_of_ble_eq_true rfl), (Nat.le_of_ble_eq_true rfl)⟩) (pz_pre (zz_ok _ _ _) hK hP hD hS hA hz) rfl rfl hl.1 rfl (lv_room (Nat.le_of_ble_eq_true rfl)) d_LW_law_262 ⟨(by rw [← hPN]; show _ ≤ 601024; omega), (by rw [← hPN]; show _ ≤ 7293034; omega)⟩) hP hD hS hA (fun r9 L9 f9 H locs hw hP hD hS => ?_)
    obtain ⟨er9, L1, g1, eL1, ho1, hg1, ad1, ed1, op1, to1, sa1, fo1, xs1, ys1, hR1⟩ := hw
    subst er9
    have eL1 : L9 = out :: L1 := eL1
    subst eL1
    rw [← hPN]
    rw [← hPN] at hg1 hmo hpr
    refine lv_istore (lv' := [(5, .int 0), (0, .ref b), (1, .ref pm), (2, .ref (A 0)), (3, .ref out), (4, .int (nI (5 * n)))]) hx hb d_LW_law_265 hl (by decide) rfl (fun ls hl => ?_)
    refine lv_aload_n hx hb d_LW_law_267 rfl (lv_at hl 3 rfl) ?_
    refine lv_aload_n hx hb d_LW_law_268 rfl (lv_at hl 1 rfl) ?_
    refine lv_iload hx hb d_LW_law_269 (lv_at hl 5 rfl) ?_
    refine lv_iconst (v := 1) hx hb d_LW_law_271 (by decide) ?_
    refine lv_iadd hx hb d_LW_law_272 ?_
    refine lv_topi (fun x5 ex5 => ?_)
    have ex5 : x5 = nI (5 * n + 1) := ex5.trans (nI_add (5 * n) 1)
    subst ex5
    refine law_sld (j := (5 * n + 1)) (v := v1) hv19 hx hb hX hbl hbA hS (by omega) (by omega) d_LW_law_273 ?_
    refine lv_aload_n hx hb d_LW_law_274 rfl (lv_at hl 1 rfl) ?_
    refine lv_iload hx hb d_LW_law_275 (lv_at hl 5 rfl) ?_
    refine lv_iconst (v := 2) hx hb d_LW_law_277 (by decide) ?_
    refine lv_iadd hx hb d_LW_law_278 ?_
    refine lv_topi (fun x6 ex6 => ?_)
    have ex6 : x6 = nI (5 * n + 2) := ex6.trans (nI_add (5 * n) 2)
    subst ex6
    refine law_sld (j := (5 * n + 2)) (v := v2) hv29 hx hb hX hbl hbA hS (by omega) (by omega) d_LW_law_279 ?_
    refine lv_aload_n hx hb d_LW_law_280 rfl (lv_at hl 1 rfl) ?_
    refine lv_iload hx hb d_LW_law_281 (lv_at hl 5 rfl) ?_
    refine lv_iconst (v := 3) hx hb d_LW_law_283 (by decide) ?_
    refine lv_iadd hx hb d_LW_law_284 ?_
    refine lv_topi (fun x7 ex7 => ?_)
    have ex7 : x7 = nI (5 * n + 3) := ex7.trans (nI_add (5 * n) 3)
    subst ex7
    refine law_sld (j := (5 * n + 3)) (v := v3) hv39 hx hb hX hbl hbA hS (by omega) (by omega) d_LW_law_285 ?_
    refine lv_aload_n hx hb d_LW_law_286 rfl (lv_at hl 1 rfl) ?_
    refine lv_iload hx hb d_LW_law_287 (lv_at hl 5 rfl) ?_
    refine lv_iconst (v := 4) hx hb d_LW_law_289 (by decide) ?_
    refine lv_iadd hx hb d_LW_law_290 ?_
    refine lv_topi (fun x8 ex8 => ?_)
    have ex8 : x8 = nI (5 * n + 4) := ex8.trans (nI_add (5 * n) 4)
    subst ex8
    refine law_sld (j := (5 * n + 4)) (v := v4) hv49 hx hb hX hbl hbA hS (by omega) (by omega) d_LW_law_291 ?_
    have hP : va_P (gD G) cls9 (va_pl (out :: L1) f9 ++ va_pl (LM A) (mF G A M)) H := va_P.swap (a := []) hP
    have hD : va_D (fun q : Nat => s.heap.size ≤ q) (va_pl (out :: L1) f9 ++ va_pl (LM A) (mF G A M)) := va_D.swap (a := []) hD
    refine pz_ci (va_runV (As := [.int v1, .int v2, .int v3, .int v4]) (rest := []) ⟨hx, hb, hml, hown, hts⟩ (c_MD_glue l G A hA9 M _ (its, F9, pgs, F, P, T) v1 v2 v3 v4 hJ hM hn5 hq0 hq1 hq2 hq3 hq4) (cwV 4 hts (tb_V tw_831 tw_832 tw_833 tw_8 tw_834) rfl rfl rfl (by decide +kernel) ⟨(Nat.le_of_ble_eq_true rfl), (Nat.le_of_ble_eq_true rfl)⟩) (pz_preV (zz_ok _ _ _) hK hP hD hS hA hz (ci := 10) rfl rfl (lm_in (by decide)) (mf_at hA9 M 0 (by decide))) rfl rfl hl.1 rfl (lv_room (Nat.le_of_ble_eq_true rfl)) d_LW_law_292 ⟨(by show _ ≤ 601024; omega), (by show _ ≤ 7293034; omega)⟩) hP hD hS hA (fun r7 L8 f8 H locs hw hP hD hS => ?_)
    obtain ⟨M1, S9, hu, hrun, hMR, hr7, hth⟩ := hw
    have hrun : (c_run 4004001 (its ++ [.inr (.inl (v1, v2, v3, v4))], F9, pgs, F, P, T) its.length) = (S9, S9.1.length) := hrun
    rw [hrun] at hPN hR1 hJr hit9
    have hPN : PN = S9.2.2.1.length := hPN
    have er7 : r7 = nI PN := hr7.trans (by rw [hPN])
    subst er7
    have eL8 : L8 = LM A := (Prod.mk.inj hu).1
    have ef8 : f8 = mF G A M1 := (Prod.mk.inj hu).2
    subst eL8
    subst ef8
    refine lv_istore (lv' := [(6, .int (nI PN)), (5, .int 0), (0, .ref b), (1, .ref pm), (2, .ref (A 0)), (3, .ref out), (4, .int (nI (5 * n)))]) hx hb d_LW_law_295 hl (by decide) rfl (fun ls hl => ?_)
    refine lv_aload_n hx hb d_LW_law_297 rfl (lv_at hl 4 rfl) ?_
    refine vp_callSi (va_Run.run (va_runV (As := []) (rest := []) ⟨hx, hb, hml, hown, hts⟩ (c_MD_thrown l G A hA9 M1 _) (cwV 0 hts (tb_V tw_762 tw_763 tw_764 tw_8 tw_765) rfl rfl rfl (by decide +kernel) ⟨(Nat.le_of_ble_eq_true rfl), (Nat.le_of_ble_eq_true rfl)⟩) (pz_preV (zz_ok _ _ _) hK hP hD hS hA hz (ci := 10) rfl rfl (lm_in (by decide)) (mf_at hA9 M1 0 (by decide))) rfl rfl hl.1 rfl (lv_room (Nat.le_of_ble_eq_true rfl)) d_LW_law_298 ⟨(by show _ ≤ 601024; omega), (by show _ ≤ 7293034; omega)⟩)) (fun r9 hw => ?_)
    have hw : r9 = 0 := hw.trans hth
    subst hw
    refine lv_iload hx hb d_LW_law_301 (lv_at hl 1 rfl) ?_
    refine lv_icmp_eq (tgt := 308) hx hb d_LW_law_303 (by decide) (fun _ => ?_) (fun c0 => absurd c0 (by decide))
    refine lv_iload hx hb d_LW_law_308 (lv_at hl 1 rfl) ?_
    refine lv_if_ne (tgt := 325) hx hb d_LW_law_310 (by decide) (fun c0 => absurd c0 (by decide)) (fun _ => ?_)
    have hP : va_P (gD G) cls9 (va_pl (LM A) (mF G A M1) ++ va_pl (out :: L1) f9) H := va_P.swap (a := []) hP
    have hD : va_D (fun q : Nat => s.heap.size ≤ q) (va_pl (LM A) (mF G A M1) ++ va_pl (out :: L1) f9) := va_D.swap (a := []) hD
    refine lv_aload_n hx hb d_LW_law_313 rfl (lv_at hl 5 rfl) ?_
    refine lv_iconst (v := 0) hx hb d_LW_law_314 (by decide) ?_
    have hin10 : vp_in 0 1 := vp_in_nI (n := 0) (N := 1) (by decide) (by decide)
    refine pz_lald hx hb hK hP 1 (List.mem_cons_self) ho1 rfl hin10 d_LW_law_315 ?_
    refine lv_topl (fun x11 (ex11 : x11 = g1 0) => ?_)
    subst ex11
    refine lv_iload hx hb d_LW_law_316 (lv_at hl 0 rfl) ?_
    refine lv_i2l hx hb d_LW_law_318 rfl ?_
    refine pz_leq (tgt := 325) hx hb d_LW_law_319 d_LW_law_320 (by decide) (fun _ => ?_) (fun c0 => absurd hg1 c0)
    have hl9 : S9.1.length = its.length + 1 := by rw [show S9.1 = its ++ [.inr (.inl (v1, v2, v3, v4))] from hit9, List.length_append]; rfl
    refine lv_goto (tgt := 711) hx hb d_LW_law_325 (by decide) ?_
    refine W.widen (k := 22 + 2 * (n + 1) + 7 * S9.2.2.1.length) (n := 24067 + 904 * (n + 1) + 933 * S9.2.2.1.length) (by omega) (by omega) ?_
    exact kk L1 f9 M1 S9 H locs ls ⟨⟨al, ad1, el, ed1, fr, op1, to1, sa1, fo1, xs1, ys1, hR1⟩, ⟨g1, ho1⟩, hJr, hMR, by omega⟩ hP hD hS (lv_sub hl [2, 3, 4, 5, 6] rfl)
  · refine lv_aload_n hx hb d_LW_law_236 rfl (lv_at hl 1 rfl) ?_
    refine lv_aload_n hx hb d_LW_law_237 rfl (lv_at hl 0 rfl) ?_
    refine lv_iload hx hb d_LW_law_238 (lv_at hl 4 rfl) ?_
    refine lv_iconst (v := 1) hx hb d_LW_law_240 (by decide) ?_
    refine lv_iadd hx hb d_LW_law_241 ?_
    refine lv_topi (fun x12 ex12 => ?_)
    have ex12 : x12 = nI (5 * n + 1) := ex12.trans (nI_add (5 * n) 1)
    subst ex12
    refine law_sld (j := (5 * n + 1)) (v := v1) hv19 hx hb hX hbl hbA hS (by omega) (by omega) d_LW_law_242 ?_
    refine lv_aload_n hx hb d_LW_law_243 rfl (lv_at hl 0 rfl) ?_
    refine lv_iload hx hb d_LW_law_244 (lv_at hl 4 rfl) ?_
    refine lv_iconst (v := 2) hx hb d_LW_law_246 (by decide) ?_
    refine lv_iadd hx hb d_LW_law_247 ?_
    refine lv_topi (fun x13 ex13 => ?_)
    have ex13 : x13 = nI (5 * n + 2) := ex13.trans (nI_add (5 * n) 2)
    subst ex13
    refine law_sld (j := (5 * n + 2)) (v := v2) hv29 hx hb hX hbl hbA hS (by omega) (by omega) d_LW_law_248 ?_
    refine lv_aload_n hx hb d_LW_law_249 rfl (lv_at hl 0 rfl) ?_
    refine lv_iload hx hb d_LW_law_250 (lv_at hl 4 rfl) ?_
    refine lv_iconst (v := 3) hx hb d_LW_law_252 (by decide) ?_
    refine lv_iadd hx hb d_LW_law_253 ?_
    refine lv_topi (fun x14 ex14 => ?_)
    have ex14 : x14 = nI (5 * n + 3) := ex14.trans (nI_add (5 * n) 3)
    subst ex14
    refine law_sld (j := (5 * n + 3)) (v := v3) hv39 hx hb hX hbl hbA hS (by omega) (by omega) d_LW_law_254 ?_
    refine lv_aload_n hx hb d_LW_law_255 rfl (lv_at hl 0 rfl) ?_
    refine lv_iload hx hb d_LW_law_256 (lv_at hl 4 rfl) ?_
    refine lv_iconst (v := 4) hx hb d_LW_law_258 (by decide) ?_
    refine lv_iadd hx hb d_LW_law_259 ?_
    refine lv_topi (fun x15 ex15 => ?_)
    have ex15 : x15 = nI (5 * n + 4) := ex15.trans (nI_add (5 * n) 4)
    subst ex15
    refine law_sld (j := (5 * n + 4)) (v := v4) hv49 hx hb hX hbl hbA hS (by omega) (by omega) d_LW_law_260 ?_
    refine lv_aload_n hx hb d_LW_law_261 rfl (lv_at hl 3 rfl) ?_
    refine pz_ci (vx_runSW (As := [.ref pm, .int v1, .int v2, .int v3, .int v4, .ref out]) (rest := []) ⟨hx, hb, hml, hown, hts⟩ (x_LW_glue l hl9 G L f _ pm al ad el ed fr op to sa fo xs9 ys its F9 pgs F P T out g v1 v2 v3 v4 hR hout hok) (vx_cwSW 6 hts (tb_SS tw_540 tw_541 tw_0 tw_542) rfl rfl rfl (by decide +kernel) ⟨(Nat.le_of_ble_eq_true rfl), (Nat.le_of_ble_eq_true rfl)⟩) (pz_pre (zz_ok _ _ _) hK hP hD hS hA hz) rfl rfl hl.1 rfl (lv_room (Nat.le_of_ble_eq_true rfl)) d_LW_law_262 ⟨(by show _ ≤ 601024; omega), (by show _ ≤ 7293034; omega)⟩) hP hD hS hA (fun r9 L9 f9 H locs hw hP hD hS => ?_)
    obtain ⟨er9, hu⟩ := hw
    subst er9
    have eL9 : L9 = out :: L := (Prod.mk.inj hu).1
    have ef9 : f9 = f := (Prod.mk.inj hu).2
    rw [eL9, ef9] at hP hD
    refine lv_istore (lv' := [(5, .int 1), (0, .ref b), (1, .ref pm), (2, .ref (A 0)), (3, .ref out), (4, .int (nI (5 * n)))]) hx hb d_LW_law_265 hl (by decide) rfl (fun ls hl => ?_)
    refine lv_aload_n hx hb d_LW_law_267 rfl (lv_at hl 3 rfl) ?_
    refine lv_aload_n hx hb d_LW_law_268 rfl (lv_at hl 1 rfl) ?_
    refine lv_iload hx hb d_LW_law_269 (lv_at hl 5 rfl) ?_
    refine lv_iconst (v := 1) hx hb d_LW_law_271 (by decide) ?_
    refine lv_iadd hx hb d_LW_law_272 ?_
    refine lv_topi (fun x16 ex16 => ?_)
    have ex16 : x16 = nI (5 * n + 1) := ex16.trans (nI_add (5 * n) 1)
    subst ex16
    refine law_sld (j := (5 * n + 1)) (v := v1) hv19 hx hb hX hbl hbA hS (by omega) (by omega) d_LW_law_273 ?_
    refine lv_aload_n hx hb d_LW_law_274 rfl (lv_at hl 1 rfl) ?_
    refine lv_iload hx hb d_LW_law_275 (lv_at hl 5 rfl) ?_
    refine lv_iconst (v := 2) hx hb d_LW_law_277 (by decide) ?_
    refine lv_iadd hx hb d_LW_law_278 ?_
    refine lv_topi (fun x17 ex17 => ?_)
    have ex17 : x17 = nI (5 * n + 2) := ex17.trans (nI_add (5 * n) 2)
    subst ex17
    refine law_sld (j := (5 * n + 2)) (v := v2) hv29 hx hb hX hbl hbA hS (by omega) (by omega) d_LW_law_279 ?_
    refine lv_aload_n hx hb d_LW_law_280 rfl (lv_at hl 1 rfl) ?_
    refine lv_iload hx hb d_LW_law_281 (lv_at hl 5 rfl) ?_
    refine lv_iconst (v := 3) hx hb d_LW_law_283 (by decide) ?_
    refine lv_iadd hx hb d_LW_law_284 ?_
    refine lv_topi (fun x18 ex18 => ?_)
    have ex18 : x18 = nI (5 * n + 3) := ex18.trans (nI_add (5 * n) 3)
    subst ex18
    refine law_sld (j := (5 * n + 3)) (v := v3) hv39 hx hb hX hbl hbA hS (by omega) (by omega) d_LW_law_285 ?_
    refine lv_aload_n hx hb d_LW_law_286 rfl (lv_at hl 1 rfl) ?_
    refine lv_iload hx hb d_LW_law_287 (lv_at hl 5 rfl) ?_
    refine lv_iconst (v := 4) hx hb d_LW_law_289 (by decide) ?_
    refine lv_iadd hx hb d_LW_law_290 ?_
    refine lv_topi (fun x19 ex19 => ?_)
    have ex19 : x19 = nI (5 * n + 4) := ex19.trans (nI_add (5 * n) 4)
    subst ex19
    refine law_sld (j := (5 * n + 4)) (v := v4) hv49 hx hb hX hbl hbA hS (by omega) (by omega) d_LW_law_291 ?_
    have hP : va_P (gD G) cls9 (va_pl (out :: L) f ++ va_pl (LM A) (mF G A M)) H := va_P.swap (a := []) hP
    have hD : va_D (fun q : Nat => s.heap.size ≤ q) (va_pl (out :: L) f ++ va_pl (LM A) (mF G A M)) := va_D.swap (a := []) hD
    refine pz_ci (va_runV (As := [.int v1, .int v2, .int v3, .int v4]) (rest := []) ⟨hx, hb, hml, hown, hts⟩ (x_MD_glue l G A hA9 M _ v1 v2 v3 v4 hok) (cwV 4 hts (tb_V tw_831 tw_832 tw_833 tw_8 tw_834) rfl rfl rfl (by decide +kernel) ⟨(Nat.le_of_ble_eq_true rfl), (Nat.le_of_ble_eq_true rfl)⟩) (pz_preV (zz_ok _ _ _) hK hP hD hS hA hz (ci := 10) rfl rfl (lm_in (by decide)) (mf_at hA9 M 0 (by decide))) rfl rfl hl.1 rfl (lv_room (Nat.le_of_ble_eq_true rfl)) d_LW_law_292 ⟨(by show _ ≤ 601024; omega), (by show _ ≤ 7293034; omega)⟩) hP hD hS hA (fun r7 L8 f8 H locs hw hP hD hS => ?_)
    obtain ⟨er7, hu⟩ := hw
    subst er7
    have eL8 : L8 = LM A := (Prod.mk.inj hu).1
    have ef8 : f8 = mF G A (M.si 0 1) := (Prod.mk.inj hu).2
    subst eL8
    subst ef8
    refine lv_istore (lv' := [(6, .int 0), (5, .int 1), (0, .ref b), (1, .ref pm), (2, .ref (A 0)), (3, .ref out), (4, .int (nI (5 * n)))]) hx hb d_LW_law_295 hl (by decide) rfl (fun ls hl => ?_)
    refine lv_aload_n hx hb d_LW_law_297 rfl (lv_at hl 4 rfl) ?_
    refine vp_callSi (va_Run.run (va_runV (As := []) (rest := []) ⟨hx, hb, hml, hown, hts⟩ (c_MD_thrown l G A hA9 (M.si 0 1) _) (cwV 0 hts (tb_V tw_762 tw_763 tw_764 tw_8 tw_765) rfl rfl rfl (by decide +kernel) ⟨(Nat.le_of_ble_eq_true rfl), (Nat.le_of_ble_eq_true rfl)⟩) (pz_preV (zz_ok _ _ _) hK hP hD hS hA hz (ci := 10) rfl rfl (lm_in (by decide)) (mf_at hA9 (M.si 0 1) 0 (by decide))) rfl rfl hl.1 rfl (lv_room (Nat.le_of_ble_eq_true rfl)) d_LW_law_298 ⟨(by show _ ≤ 601024; omega), (by show _ ≤ 7293034; omega)⟩)) (fun r20 hw => ?_)
    have hw : r20 = 1 := hw.trans rfl
    subst hw
    refine lv_iload hx hb d_LW_law_301 (lv_at hl 1 rfl) ?_
    refine lv_icmp_eq (tgt := 308) hx hb d_LW_law_303 (by decide) (fun _ => ?_) (fun c0 => absurd c0 (by decide))
    refine lv_iload hx hb d_LW_law_308 (lv_at hl 1 rfl) ?_
    refine lv_if_ne (tgt := 325) hx hb d_LW_law_310 (by decide) (fun _ => ?_) (fun c0 => absurd c0 (by decide))
    have hP : va_P (gD G) cls9 (va_pl (LM A) (mF G A (M.si 0 1)) ++ va_pl (out :: L) f) H := va_P.swap (a := []) hP
    have hD : va_D (fun q : Nat => s.heap.size ≤ q) (va_pl (LM A) (mF G A (M.si 0 1)) ++ va_pl (out :: L) f) := va_D.swap (a := []) hD
    refine lv_goto (tgt := 711) hx hb d_LW_law_325 (by decide) ?_
    refine W.widen (k := 22 + 2 * (n + 1) + 7 * pgs.length) (n := 24067 + 904 * (n + 1) + 933 * pgs.length) (by omega) (by omega) ?_
    exact kk L f (M.si 0 1) (its, F9, pgs, F, P, T) H locs ls ⟨⟨al, ad, el, ed, fr, op, to, sa, fo, xs9, ys, hR⟩, ⟨g, hout⟩, hJ, mr_th hM, by show its.length ≤ n + 1; omega⟩ hP hD hS (lv_sub hl [2, 3, 4, 5, 6] rfl)
set_option maxHeartbeats 4000000 in
set_option maxRecDepth 100000 in
/-- the law: kern -/
theorem lw_kern {p : Program} {e : Env} {s : State} {m : MethodId} {below : List Frame} {meth : Method} {c : Code} (l : Launch) (hl9 : l.stackTraces = false) {b Ln : Nat} {xs : Nat → Int32} (hL : Ln ≤ 2560) (C0 : lw_At p s m meth c b Ln xs) (G : gG) (hK : va_K (gD G) cls9 (gT G) s) (hz : gZ G (fun q : Nat => s.heap.size ≤ q) s s.heap) (A : Nat → Nat) (hA9 : mJn A) (pm out : Nat) (n : Nat) (hn : 5 * n + 5 ≤ Ln) (L : List Nat) (f : Nat → va_E) (M : MS) (S : CS) (hI : LI G L f pm out M S n) (H : Heap) (locs : List Loc) (hP : va_P (gD G) cls9 (va_pl (LM A) (mF G A M) ++ va_pl (out :: L) f) H) (hD : va_D (fun q : Nat => s.heap.size ≤ q) (va_pl (LM A) (mF G A M) ++ va_pl (out :: L) f)) (hS : va_S (fun q : Nat => s.heap.size ≤ q) s.heap H locs) (ls : Array Slot) (hl : lv_has ls 8 [(0, .ref b), (1, .ref pm), (2, .ref (A 0)), (3, .ref out), (4, .int (nI (5 * n)))]) (kk : ∀ (L1 : List Nat) (f1 : Nat → va_E) (M1 : MS) (S1 : CS) (H1 : Heap) (locs1 : List Loc) (ls1 : Array Slot), LI G L1 f1 pm out M1 S1 (n + 1) → va_P (gD G) cls9 (va_pl (LM A) (mF G A M1) ++ va_pl (out :: L1) f1) H1 → va_D (fun q : Nat => s.heap.size ≤ q) (va_pl (LM A) (mF G A M1) ++ va_pl (out :: L1) f1) → va_S (fun q : Nat => s.heap.size ≤ q) s.heap H1 locs1 → lv_has ls1 8 [(0, .ref b), (1, .ref pm), (2, .ref (A 0)), (3, .ref out), (4, .int (nI (5 * n)))] → W p l e room_1 s m #[Value.ref b] below meth c H1 locs1 (22 + 2 * (n + 1) + 7 * S1.2.2.1.length) (24067 + 904 * (n + 1) + 933 * S1.2.2.1.length) (lw_Z below #[Value.ref b] s) (F0 m 711 ls1 [])) :
    W p l e room_1 s m #[Value.ref b] below meth c H locs (22 + 2 * n + 7 * S.2.2.1.length) (24067 + 904 * n + 933 * S.2.2.1.length) (lw_Z below #[Value.ref b] s) (F0 m 328 ls []) := by
  obtain ⟨hx, hb, hr, hml, hown, hts0, hX, hbl, hlocks, hgv⟩ := id C0
  have hA : ∀ q : Nat, s.heap.size ≤ q → (fun q : Nat => s.heap.size ≤ q) q := fun _ h => h
  have hbA : ¬ (fun q : Nat => s.heap.size ≤ q) b := Nat.not_le.mpr hbl
  have htb : ∀ w ∈ TB, w.before #[Value.ref b] s = true := fun w h => hts0 w (List.mem_filter.mp h).1
  have hts : ∀ w ∈ (Cond.initialized "PageMaker" :: TB), w.before #[Value.ref b] s = true := fun w h => (List.mem_cons.mp h).elim (fun e9 => e9 ▸ htb _ tw_1) (htb w)
  obtain ⟨its, F9, pgs, F, P, T⟩ := S
  obtain ⟨⟨al, ad, el, ed, fr, op, to, sa, fo, xs9, ys, hR⟩, ⟨g, hout⟩, hJ, hM, hln⟩ := id hI
  have hln : its.length ≤ n := hln
  show W p l e room_1 s m #[Value.ref b] below meth c H locs (22 + 2 * n + 7 * pgs.length) (24067 + 904 * n + 933 * pgs.length) (lw_Z below #[Value.ref b] s) (F0 m 328 ls [])
  have hp5 : pgs.length ≤ 512 := j_pgs hJ
  have hn5 : its.length < 512 := by omega
  obtain ⟨v1, hv19⟩ : ∃ v, v = xs (5 * n + 1) := ⟨_, rfl⟩
  by_cases hok : k_isS v1
  · have hq0 := hok
    have hJi : J (its ++ [.inr (.inr (.inl v1))], F9, pgs, F, P, T) its.length := j_in (S := (its, F9, pgs, F, P, T)) (x := .inr (.inr (.inl v1))) hJ hn5 hq0
    have hJr := j_run 4004001 _ _ hJi
    have hmo : pgs.length ≤ (c_run 4004001 (its ++ [.inr (.inr (.inl v1))], F9, pgs, F, P, T) its.length).1.2.2.1.length := c_run_mono 4004001 (its ++ [.inr (.inr (.inl v1))], F9, pgs, F, P, T) its.length
    have hpr : (c_run 4004001 (its ++ [.inr (.inr (.inl v1))], F9, pgs, F, P, T) its.length).1.2.2.1.length ≤ 512 := j_pgs hJr
    have hit9 : (c_run 4004001 (its ++ [.inr (.inr (.inl v1))], F9, pgs, F, P, T) its.length).1.1 = its ++ [.inr (.inr (.inl v1))] := c_run_its 4004001 (its ++ [.inr (.inr (.inl v1))], F9, pgs, F, P, T) its.length
    obtain ⟨PN, hPN⟩ : ∃ PN, PN = (c_run 4004001 (its ++ [.inr (.inr (.inl v1))], F9, pgs, F, P, T) its.length).1.2.2.1.length := ⟨_, rfl⟩
    refine lv_aload_n hx hb d_LW_law_328 rfl (lv_at hl 1 rfl) ?_
    refine lv_aload_n hx hb d_LW_law_329 rfl (lv_at hl 0 rfl) ?_
    refine lv_iload hx hb d_LW_law_330 (lv_at hl 4 rfl) ?_
    refine lv_iconst (v := 1) hx hb d_LW_law_332 (by decide) ?_
    refine lv_iadd hx hb d_LW_law_333 ?_
    refine lv_topi (fun x1 ex1 => ?_)
    have ex1 : x1 = nI (5 * n + 1) := ex1.trans (nI_add (5 * n) 1)
    subst ex1
    refine law_sld (j := (5 * n + 1)) (v := v1) hv19 hx hb hX hbl hbA hS (by omega) (by omega) d_LW_law_334 ?_
    refine lv_aload_n hx hb d_LW_law_335 rfl (lv_at hl 3 rfl) ?_
    refine pz_ci (vx_runSW (As := [.ref pm, .int v1, .ref out]) (rest := []) ⟨hx, hb, hml, hown, hts⟩ (c_LW_kern l G L f _ pm al ad el ed fr op to sa fo xs9 ys its F9 pgs F P T out g v1 hR hout hq0 hn5 hp5 (j_ok _ _ _ hJi)) (vx_cwSW 3 hts (tb_SS tw_567 tw_568 tw_0 tw_569) rfl rfl rfl (by decide +kernel) ⟨(Nat.le_of_ble_eq_true rfl), (Nat.le_of_ble_eq_true rfl)⟩) (pz_pre (zz_ok _ _ _) hK hP hD hS hA hz) rfl rfl hl.1 rfl (lv_room (Nat.le_of_ble_eq_true rfl)) d_LW_law_336 ⟨(by rw [← hPN]; show _ ≤ 601024; omega), (by rw [← hPN]; show _ ≤ 7293034; omega)⟩) hP hD hS hA (fun r9 L9 f9 H locs hw hP hD hS => ?_)
    obtain ⟨er9, L1, g1, eL1, ho1, hg1, ad1, ed1, op1, to1, sa1, fo1, xs1, ys1, hR1⟩ := hw
    subst er9
    have eL1 : L9 = out :: L1 := eL1
    subst eL1
    rw [← hPN]
    rw [← hPN] at hg1 hmo hpr
    refine lv_istore (lv' := [(5, .int 0), (0, .ref b), (1, .ref pm), (2, .ref (A 0)), (3, .ref out), (4, .int (nI (5 * n)))]) hx hb d_LW_law_339 hl (by decide) rfl (fun ls hl => ?_)
    refine lv_aload_n hx hb d_LW_law_341 rfl (lv_at hl 3 rfl) ?_
    refine lv_aload_n hx hb d_LW_law_342 rfl (lv_at hl 1 rfl) ?_
    refine lv_iload hx hb d_LW_law_343 (lv_at hl 5 rfl) ?_
    refine lv_iconst (v := 1) hx hb d_LW_law_345 (by decide) ?_
    refine lv_iadd hx hb d_LW_law_346 ?_
    refine lv_topi (fun x2 ex2 => ?_)
    have ex2 : x2 = nI (5 * n + 1) := ex2.trans (nI_add (5 * n) 1)
    subst ex2
    refine law_sld (j := (5 * n + 1)) (v := v1) hv19 hx hb hX hbl hbA hS (by omega) (by omega) d_LW_law_347 ?_
    have hP : va_P (gD G) cls9 (va_pl (out :: L1) f9 ++ va_pl (LM A) (mF G A M)) H := va_P.swap (a := []) hP
    have hD : va_D (fun q : Nat => s.heap.size ≤ q) (va_pl (out :: L1) f9 ++ va_pl (LM A) (mF G A M)) := va_D.swap (a := []) hD
    refine pz_ci (va_runV (As := [.int v1]) (rest := []) ⟨hx, hb, hml, hown, hts⟩ (c_MD_kern l G A hA9 M _ (its, F9, pgs, F, P, T) v1 hJ hM hn5 hq0) (cwV 1 hts (tb_V tw_835 tw_836 tw_837 tw_8 tw_838) rfl rfl rfl (by decide +kernel) ⟨(Nat.le_of_ble_eq_true rfl), (Nat.le_of_ble_eq_true rfl)⟩) (pz_preV (zz_ok _ _ _) hK hP hD hS hA hz (ci := 10) rfl rfl (lm_in (by decide)) (mf_at hA9 M 0 (by decide))) rfl rfl hl.1 rfl (lv_room (Nat.le_of_ble_eq_true rfl)) d_LW_law_348 ⟨(by show _ ≤ 601024; omega), (by show _ ≤ 7293034; omega)⟩) hP hD hS hA (fun r7 L8 f8 H locs hw hP hD hS => ?_)
    obtain ⟨M1, S9, hu, hrun, hMR, hr7, hth⟩ := hw
    have hrun : (c_run 4004001 (its ++ [.inr (.inr (.inl v1))], F9, pgs, F, P, T) its.length) = (S9, S9.1.length) := hrun
    rw [hrun] at hPN hR1 hJr hit9
    have hPN : PN = S9.2.2.1.length := hPN
    have er7 : r7 = nI PN := hr7.trans (by rw [hPN])
    subst er7
    have eL8 : L8 = LM A := (Prod.mk.inj hu).1
    have ef8 : f8 = mF G A M1 := (Prod.mk.inj hu).2
    subst eL8
    subst ef8
    refine lv_istore (lv' := [(6, .int (nI PN)), (5, .int 0), (0, .ref b), (1, .ref pm), (2, .ref (A 0)), (3, .ref out), (4, .int (nI (5 * n)))]) hx hb d_LW_law_351 hl (by decide) rfl (fun ls hl => ?_)
    refine lv_aload_n hx hb d_LW_law_353 rfl (lv_at hl 4 rfl) ?_
    refine vp_callSi (va_Run.run (va_runV (As := []) (rest := []) ⟨hx, hb, hml, hown, hts⟩ (c_MD_thrown l G A hA9 M1 _) (cwV 0 hts (tb_V tw_762 tw_763 tw_764 tw_8 tw_765) rfl rfl rfl (by decide +kernel) ⟨(Nat.le_of_ble_eq_true rfl), (Nat.le_of_ble_eq_true rfl)⟩) (pz_preV (zz_ok _ _ _) hK hP hD hS hA hz (ci := 10) rfl rfl (lm_in (by decide)) (mf_at hA9 M1 0 (by decide))) rfl rfl hl.1 rfl (lv_room (Nat.le_of_ble_eq_true rfl)) d_LW_law_354 ⟨(by show _ ≤ 601024; omega), (by show _ ≤ 7293034; omega)⟩)) (fun r3 hw => ?_)
    have hw : r3 = 0 := hw.trans hth
    subst hw
    refine lv_iload hx hb d_LW_law_357 (lv_at hl 1 rfl) ?_
    refine lv_icmp_eq (tgt := 364) hx hb d_LW_law_359 (by decide) (fun _ => ?_) (fun c0 => absurd c0 (by decide))
    refine lv_iload hx hb d_LW_law_364 (lv_at hl 1 rfl) ?_
    refine lv_if_ne (tgt := 381) hx hb d_LW_law_366 (by decide) (fun c0 => absurd c0 (by decide)) (fun _ => ?_)
    have hP : va_P (gD G) cls9 (va_pl (LM A) (mF G A M1) ++ va_pl (out :: L1) f9) H := va_P.swap (a := []) hP
    have hD : va_D (fun q : Nat => s.heap.size ≤ q) (va_pl (LM A) (mF G A M1) ++ va_pl (out :: L1) f9) := va_D.swap (a := []) hD
    refine lv_aload_n hx hb d_LW_law_369 rfl (lv_at hl 5 rfl) ?_
    refine lv_iconst (v := 0) hx hb d_LW_law_370 (by decide) ?_
    have hin4 : vp_in 0 1 := vp_in_nI (n := 0) (N := 1) (by decide) (by decide)
    refine pz_lald hx hb hK hP 1 (List.mem_cons_self) ho1 rfl hin4 d_LW_law_371 ?_
    refine lv_topl (fun x5 (ex5 : x5 = g1 0) => ?_)
    subst ex5
    refine lv_iload hx hb d_LW_law_372 (lv_at hl 0 rfl) ?_
    refine lv_i2l hx hb d_LW_law_374 rfl ?_
    refine pz_leq (tgt := 381) hx hb d_LW_law_375 d_LW_law_376 (by decide) (fun _ => ?_) (fun c0 => absurd hg1 c0)
    have hl9 : S9.1.length = its.length + 1 := by rw [show S9.1 = its ++ [.inr (.inr (.inl v1))] from hit9, List.length_append]; rfl
    refine lv_goto (tgt := 711) hx hb d_LW_law_381 (by decide) ?_
    refine W.widen (k := 22 + 2 * (n + 1) + 7 * S9.2.2.1.length) (n := 24067 + 904 * (n + 1) + 933 * S9.2.2.1.length) (by omega) (by omega) ?_
    exact kk L1 f9 M1 S9 H locs ls ⟨⟨al, ad1, el, ed1, fr, op1, to1, sa1, fo1, xs1, ys1, hR1⟩, ⟨g1, ho1⟩, hJr, hMR, by omega⟩ hP hD hS (lv_sub hl [2, 3, 4, 5, 6] rfl)
  · refine lv_aload_n hx hb d_LW_law_328 rfl (lv_at hl 1 rfl) ?_
    refine lv_aload_n hx hb d_LW_law_329 rfl (lv_at hl 0 rfl) ?_
    refine lv_iload hx hb d_LW_law_330 (lv_at hl 4 rfl) ?_
    refine lv_iconst (v := 1) hx hb d_LW_law_332 (by decide) ?_
    refine lv_iadd hx hb d_LW_law_333 ?_
    refine lv_topi (fun x6 ex6 => ?_)
    have ex6 : x6 = nI (5 * n + 1) := ex6.trans (nI_add (5 * n) 1)
    subst ex6
    refine law_sld (j := (5 * n + 1)) (v := v1) hv19 hx hb hX hbl hbA hS (by omega) (by omega) d_LW_law_334 ?_
    refine lv_aload_n hx hb d_LW_law_335 rfl (lv_at hl 3 rfl) ?_
    refine pz_ci (vx_runSW (As := [.ref pm, .int v1, .ref out]) (rest := []) ⟨hx, hb, hml, hown, hts⟩ (x_LW_kern l hl9 G L f _ pm al ad el ed fr op to sa fo xs9 ys its F9 pgs F P T out g v1 hR hout hok) (vx_cwSW 3 hts (tb_SS tw_567 tw_568 tw_0 tw_569) rfl rfl rfl (by decide +kernel) ⟨(Nat.le_of_ble_eq_true rfl), (Nat.le_of_ble_eq_true rfl)⟩) (pz_pre (zz_ok _ _ _) hK hP hD hS hA hz) rfl rfl hl.1 rfl (lv_room (Nat.le_of_ble_eq_true rfl)) d_LW_law_336 ⟨(by show _ ≤ 601024; omega), (by show _ ≤ 7293034; omega)⟩) hP hD hS hA (fun r9 L9 f9 H locs hw hP hD hS => ?_)
    obtain ⟨er9, hu⟩ := hw
    subst er9
    have eL9 : L9 = out :: L := (Prod.mk.inj hu).1
    have ef9 : f9 = f := (Prod.mk.inj hu).2
    rw [eL9, ef9] at hP hD
    refine lv_istore (lv' := [(5, .int 1), (0, .ref b), (1, .ref pm), (2, .ref (A 0)), (3, .ref out), (4, .int (nI (5 * n)))]) hx hb d_LW_law_339 hl (by decide) rfl (fun ls hl => ?_)
    refine lv_aload_n hx hb d_LW_law_341 rfl (lv_at hl 3 rfl) ?_
    refine lv_aload_n hx hb d_LW_law_342 rfl (lv_at hl 1 rfl) ?_
    refine lv_iload hx hb d_LW_law_343 (lv_at hl 5 rfl) ?_
    refine lv_iconst (v := 1) hx hb d_LW_law_345 (by decide) ?_
    refine lv_iadd hx hb d_LW_law_346 ?_
    refine lv_topi (fun x7 ex7 => ?_)
    have ex7 : x7 = nI (5 * n + 1) := ex7.trans (nI_add (5 * n) 1)
    subst ex7
    refine law_sld (j := (5 * n + 1)) (v := v1) hv19 hx hb hX hbl hbA hS (by omega) (by omega) d_LW_law_347 ?_
    have hP : va_P (gD G) cls9 (va_pl (out :: L) f ++ va_pl (LM A) (mF G A M)) H := va_P.swap (a := []) hP
    have hD : va_D (fun q : Nat => s.heap.size ≤ q) (va_pl (out :: L) f ++ va_pl (LM A) (mF G A M)) := va_D.swap (a := []) hD
    refine pz_ci (va_runV (As := [.int v1]) (rest := []) ⟨hx, hb, hml, hown, hts⟩ (x_MD_kern l G A hA9 M _ v1 hok) (cwV 1 hts (tb_V tw_835 tw_836 tw_837 tw_8 tw_838) rfl rfl rfl (by decide +kernel) ⟨(Nat.le_of_ble_eq_true rfl), (Nat.le_of_ble_eq_true rfl)⟩) (pz_preV (zz_ok _ _ _) hK hP hD hS hA hz (ci := 10) rfl rfl (lm_in (by decide)) (mf_at hA9 M 0 (by decide))) rfl rfl hl.1 rfl (lv_room (Nat.le_of_ble_eq_true rfl)) d_LW_law_348 ⟨(by show _ ≤ 601024; omega), (by show _ ≤ 7293034; omega)⟩) hP hD hS hA (fun r7 L8 f8 H locs hw hP hD hS => ?_)
    obtain ⟨er7, hu⟩ := hw
    subst er7
    have eL8 : L8 = LM A := (Prod.mk.inj hu).1
    have ef8 : f8 = mF G A (M.si 0 1) := (Prod.mk.inj hu).2
    subst eL8
    subst ef8
    refine lv_istore (lv' := [(6, .int 0), (5, .int 1), (0, .ref b), (1, .ref pm), (2, .ref (A 0)), (3, .ref out), (4, .int (nI (5 * n)))]) hx hb d_LW_law_351 hl (by decide) rfl (fun ls hl => ?_)
    refine lv_aload_n hx hb d_LW_law_353 rfl (lv_at hl 4 rfl) ?_
    refine vp_callSi (va_Run.run (va_runV (As := []) (rest := []) ⟨hx, hb, hml, hown, hts⟩ (c_MD_thrown l G A hA9 (M.si 0 1) _) (cwV 0 hts (tb_V tw_762 tw_763 tw_764 tw_8 tw_765) rfl rfl rfl (by decide +kernel) ⟨(Nat.le_of_ble_eq_true rfl), (Nat.le_of_ble_eq_true rfl)⟩) (pz_preV (zz_ok _ _ _) hK hP hD hS hA hz (ci := 10) rfl rfl (lm_in (by decide)) (mf_at hA9 (M.si 0 1) 0 (by decide))) rfl rfl hl.1 rfl (lv_room (Nat.le_of_ble_eq_true rfl)) d_LW_law_354 ⟨(by show _ ≤ 601024; omega), (by show _ ≤ 7293034; omega)⟩)) (fun r8 hw => ?_)
    have hw : r8 = 1 := hw.trans rfl
    subst hw
    refine lv_iload hx hb d_LW_law_357 (lv_at hl 1 rfl) ?_
    refine lv_icmp_eq (tgt := 364) hx hb d_LW_law_359 (by decide) (fun _ => ?_) (fun c0 => absurd c0 (by decide))
    refine lv_iload hx hb d_LW_law_364 (lv_at hl 1 rfl) ?_
    refine lv_if_ne (tgt := 381) hx hb d_LW_law_366 (by decide) (fun _ => ?_) (fun c0 => absurd c0 (by decide))
    have hP : va_P (gD G) cls9 (va_pl (LM A) (mF G A (M.si 0 1)) ++ va_pl (out :: L) f) H := va_P.swap (a := []) hP
    have hD : va_D (fun q : Nat => s.heap.size ≤ q) (va_pl (LM A) (mF G A (M.si 0 1)) ++ va_pl (out :: L) f) := va_D.swap (a := []) hD
    refine lv_goto (tgt := 711) hx hb d_LW_law_381 (by decide) ?_
    refine W.widen (k := 22 + 2 * (n + 1) + 7 * pgs.length) (n := 24067 + 904 * (n + 1) + 933 * pgs.length) (by omega) (by omega) ?_
    exact kk L f (M.si 0 1) (its, F9, pgs, F, P, T) H locs ls ⟨⟨al, ad, el, ed, fr, op, to, sa, fo, xs9, ys, hR⟩, ⟨g, hout⟩, hJ, mr_th hM, by show its.length ≤ n + 1; omega⟩ hP hD hS (lv_sub hl [2, 3, 4, 5, 6] rfl)
set_option maxHeartbeats 4000000 in
set_option maxRecDepth 100000 in
/-- the law: penalty -/
theorem lw_penalty {p : Program} {e : Env} {s : State} {m : MethodId} {below : List Frame} {meth : Method} {c : Code} (l : Launch) (hl9 : l.stackTraces = false) {b Ln : Nat} {xs : Nat → Int32} (hL : Ln ≤ 2560) (C0 : lw_At p s m meth c b Ln xs) (G : gG) (hK : va_K (gD G) cls9 (gT G) s) (hz : gZ G (fun q : Nat => s.heap.size ≤ q) s s.heap) (A : Nat → Nat) (hA9 : mJn A) (pm out : Nat) (n : Nat) (hn : 5 * n + 5 ≤ Ln) (L : List Nat) (f : Nat → va_E) (M : MS) (S : CS) (hI : LI G L f pm out M S n) (H : Heap) (locs : List Loc) (hP : va_P (gD G) cls9 (va_pl (LM A) (mF G A M) ++ va_pl (out :: L) f) H) (hD : va_D (fun q : Nat => s.heap.size ≤ q) (va_pl (LM A) (mF G A M) ++ va_pl (out :: L) f)) (hS : va_S (fun q : Nat => s.heap.size ≤ q) s.heap H locs) (ls : Array Slot) (hl : lv_has ls 8 [(0, .ref b), (1, .ref pm), (2, .ref (A 0)), (3, .ref out), (4, .int (nI (5 * n)))]) (kk : ∀ (L1 : List Nat) (f1 : Nat → va_E) (M1 : MS) (S1 : CS) (H1 : Heap) (locs1 : List Loc) (ls1 : Array Slot), LI G L1 f1 pm out M1 S1 (n + 1) → va_P (gD G) cls9 (va_pl (LM A) (mF G A M1) ++ va_pl (out :: L1) f1) H1 → va_D (fun q : Nat => s.heap.size ≤ q) (va_pl (LM A) (mF G A M1) ++ va_pl (out :: L1) f1) → va_S (fun q : Nat => s.heap.size ≤ q) s.heap H1 locs1 → lv_has ls1 8 [(0, .ref b), (1, .ref pm), (2, .ref (A 0)), (3, .ref out), (4, .int (nI (5 * n)))] → W p l e room_1 s m #[Value.ref b] below meth c H1 locs1 (22 + 2 * (n + 1) + 7 * S1.2.2.1.length) (24067 + 904 * (n + 1) + 933 * S1.2.2.1.length) (lw_Z below #[Value.ref b] s) (F0 m 711 ls1 [])) :
    W p l e room_1 s m #[Value.ref b] below meth c H locs (22 + 2 * n + 7 * S.2.2.1.length) (24067 + 904 * n + 933 * S.2.2.1.length) (lw_Z below #[Value.ref b] s) (F0 m 384 ls []) := by
  obtain ⟨hx, hb, hr, hml, hown, hts0, hX, hbl, hlocks, hgv⟩ := id C0
  have hA : ∀ q : Nat, s.heap.size ≤ q → (fun q : Nat => s.heap.size ≤ q) q := fun _ h => h
  have hbA : ¬ (fun q : Nat => s.heap.size ≤ q) b := Nat.not_le.mpr hbl
  have htb : ∀ w ∈ TB, w.before #[Value.ref b] s = true := fun w h => hts0 w (List.mem_filter.mp h).1
  have hts : ∀ w ∈ (Cond.initialized "PageMaker" :: TB), w.before #[Value.ref b] s = true := fun w h => (List.mem_cons.mp h).elim (fun e9 => e9 ▸ htb _ tw_1) (htb w)
  obtain ⟨its, F9, pgs, F, P, T⟩ := S
  obtain ⟨⟨al, ad, el, ed, fr, op, to, sa, fo, xs9, ys, hR⟩, ⟨g, hout⟩, hJ, hM, hln⟩ := id hI
  have hln : its.length ≤ n := hln
  show W p l e room_1 s m #[Value.ref b] below meth c H locs (22 + 2 * n + 7 * pgs.length) (24067 + 904 * n + 933 * pgs.length) (lw_Z below #[Value.ref b] s) (F0 m 384 ls [])
  have hp5 : pgs.length ≤ 512 := j_pgs hJ
  have hn5 : its.length < 512 := by omega
  obtain ⟨v1, hv19⟩ : ∃ v, v = xs (5 * n + 1) := ⟨_, rfl⟩
  by_cases hok : (-100000) ≤ v1 ∧ v1 ≤ 100000
  · obtain ⟨hq0, hq1⟩ := id hok
    have hJi : J (its ++ [.inr (.inr (.inr v1))], F9, pgs, F, P, T) its.length := j_in (S := (its, F9, pgs, F, P, T)) (x := .inr (.inr (.inr v1))) hJ hn5 ⟨hq0, hq1⟩
    have hJr := j_run 4004001 _ _ hJi
    have hmo : pgs.length ≤ (c_run 4004001 (its ++ [.inr (.inr (.inr v1))], F9, pgs, F, P, T) its.length).1.2.2.1.length := c_run_mono 4004001 (its ++ [.inr (.inr (.inr v1))], F9, pgs, F, P, T) its.length
    have hpr : (c_run 4004001 (its ++ [.inr (.inr (.inr v1))], F9, pgs, F, P, T) its.length).1.2.2.1.length ≤ 512 := j_pgs hJr
    have hit9 : (c_run 4004001 (its ++ [.inr (.inr (.inr v1))], F9, pgs, F, P, T) its.length).1.1 = its ++ [.inr (.inr (.inr v1))] := c_run_its 4004001 (its ++ [.inr (.inr (.inr v1))], F9, pgs, F, P, T) its.length
    obtain ⟨PN, hPN⟩ : ∃ PN, PN = (c_run 4004001 (its ++ [.inr (.inr (.inr v1))], F9, pgs, F, P, T) its.length).1.2.2.1.length := ⟨_, rfl⟩
    refine lv_aload_n hx hb d_LW_law_384 rfl (lv_at hl 1 rfl) ?_
    refine lv_aload_n hx hb d_LW_law_385 rfl (lv_at hl 0 rfl) ?_
    refine lv_iload hx hb d_LW_law_386 (lv_at hl 4 rfl) ?_
    refine lv_iconst (v := 1) hx hb d_LW_law_388 (by decide) ?_
    refine lv_iadd hx hb d_LW_law_389 ?_
    refine lv_topi (fun x1 ex1 => ?_)
    have ex1 : x1 = nI (5 * n + 1) := ex1.trans (nI_add (5 * n) 1)
    subst ex1
    refine law_sld (j := (5 * n + 1)) (v := v1) hv19 hx hb hX hbl hbA hS (by omega) (by omega) d_LW_law_390 ?_
    refine lv_aload_n hx hb d_LW_law_391 rfl (lv_at hl 3 rfl) ?_
    refine pz_ci (vx_runSW (As := [.ref pm, .int v1, .ref out]) (rest := []) ⟨hx, hb, hml, hown, hts⟩ (c_LW_penalty l G L f _ pm al ad el ed fr op to sa fo xs9 ys its F9 pgs F P T out g v1 hR hout hq0 hq1 hn5 hp5 (j_ok _ _ _ hJi)) (vx_cwSW 3 hts (tb_SS tw_584 tw_585 tw_0 tw_586) rfl rfl rfl (by decide +kernel) ⟨(Nat.le_of_ble_eq_true rfl), (Nat.le_of_ble_eq_true rfl)⟩) (pz_pre (zz_ok _ _ _) hK hP hD hS hA hz) rfl rfl hl.1 rfl (lv_room (Nat.le_of_ble_eq_true rfl)) d_LW_law_392 ⟨(by rw [← hPN]; show _ ≤ 601024; omega), (by rw [← hPN]; show _ ≤ 7293034; omega)⟩) hP hD hS hA (fun r9 L9 f9 H locs hw hP hD hS => ?_)
    obtain ⟨er9, L1, g1, eL1, ho1, hg1, ad1, ed1, op1, to1, sa1, fo1, xs1, ys1, hR1⟩ := hw
    subst er9
    have eL1 : L9 = out :: L1 := eL1
    subst eL1
    rw [← hPN]
    rw [← hPN] at hg1 hmo hpr
    refine lv_istore (lv' := [(5, .int 0), (0, .ref b), (1, .ref pm), (2, .ref (A 0)), (3, .ref out), (4, .int (nI (5 * n)))]) hx hb d_LW_law_395 hl (by decide) rfl (fun ls hl => ?_)
    refine lv_aload_n hx hb d_LW_law_397 rfl (lv_at hl 3 rfl) ?_
    refine lv_aload_n hx hb d_LW_law_398 rfl (lv_at hl 1 rfl) ?_
    refine lv_iload hx hb d_LW_law_399 (lv_at hl 5 rfl) ?_
    refine lv_iconst (v := 1) hx hb d_LW_law_401 (by decide) ?_
    refine lv_iadd hx hb d_LW_law_402 ?_
    refine lv_topi (fun x2 ex2 => ?_)
    have ex2 : x2 = nI (5 * n + 1) := ex2.trans (nI_add (5 * n) 1)
    subst ex2
    refine law_sld (j := (5 * n + 1)) (v := v1) hv19 hx hb hX hbl hbA hS (by omega) (by omega) d_LW_law_403 ?_
    have hP : va_P (gD G) cls9 (va_pl (out :: L1) f9 ++ va_pl (LM A) (mF G A M)) H := va_P.swap (a := []) hP
    have hD : va_D (fun q : Nat => s.heap.size ≤ q) (va_pl (out :: L1) f9 ++ va_pl (LM A) (mF G A M)) := va_D.swap (a := []) hD
    refine pz_ci (va_runV (As := [.int v1]) (rest := []) ⟨hx, hb, hml, hown, hts⟩ (c_MD_penalty l G A hA9 M _ (its, F9, pgs, F, P, T) v1 hJ hM hn5 hq0 hq1) (cwV 1 hts (tb_V tw_839 tw_840 tw_841 tw_8 tw_842) rfl rfl rfl (by decide +kernel) ⟨(Nat.le_of_ble_eq_true rfl), (Nat.le_of_ble_eq_true rfl)⟩) (pz_preV (zz_ok _ _ _) hK hP hD hS hA hz (ci := 10) rfl rfl (lm_in (by decide)) (mf_at hA9 M 0 (by decide))) rfl rfl hl.1 rfl (lv_room (Nat.le_of_ble_eq_true rfl)) d_LW_law_404 ⟨(by show _ ≤ 601024; omega), (by show _ ≤ 7293034; omega)⟩) hP hD hS hA (fun r7 L8 f8 H locs hw hP hD hS => ?_)
    obtain ⟨M1, S9, hu, hrun, hMR, hr7, hth⟩ := hw
    have hrun : (c_run 4004001 (its ++ [.inr (.inr (.inr v1))], F9, pgs, F, P, T) its.length) = (S9, S9.1.length) := hrun
    rw [hrun] at hPN hR1 hJr hit9
    have hPN : PN = S9.2.2.1.length := hPN
    have er7 : r7 = nI PN := hr7.trans (by rw [hPN])
    subst er7
    have eL8 : L8 = LM A := (Prod.mk.inj hu).1
    have ef8 : f8 = mF G A M1 := (Prod.mk.inj hu).2
    subst eL8
    subst ef8
    refine lv_istore (lv' := [(6, .int (nI PN)), (5, .int 0), (0, .ref b), (1, .ref pm), (2, .ref (A 0)), (3, .ref out), (4, .int (nI (5 * n)))]) hx hb d_LW_law_407 hl (by decide) rfl (fun ls hl => ?_)
    refine lv_aload_n hx hb d_LW_law_409 rfl (lv_at hl 4 rfl) ?_
    refine vp_callSi (va_Run.run (va_runV (As := []) (rest := []) ⟨hx, hb, hml, hown, hts⟩ (c_MD_thrown l G A hA9 M1 _) (cwV 0 hts (tb_V tw_762 tw_763 tw_764 tw_8 tw_765) rfl rfl rfl (by decide +kernel) ⟨(Nat.le_of_ble_eq_true rfl), (Nat.le_of_ble_eq_true rfl)⟩) (pz_preV (zz_ok _ _ _) hK hP hD hS hA hz (ci := 10) rfl rfl (lm_in (by decide)) (mf_at hA9 M1 0 (by decide))) rfl rfl hl.1 rfl (lv_room (Nat.le_of_ble_eq_true rfl)) d_LW_law_410 ⟨(by show _ ≤ 601024; omega), (by show _ ≤ 7293034; omega)⟩)) (fun r3 hw => ?_)
    have hw : r3 = 0 := hw.trans hth
    subst hw
    refine lv_iload hx hb d_LW_law_413 (lv_at hl 1 rfl) ?_
    refine lv_icmp_eq (tgt := 420) hx hb d_LW_law_415 (by decide) (fun _ => ?_) (fun c0 => absurd c0 (by decide))
    refine lv_iload hx hb d_LW_law_420 (lv_at hl 1 rfl) ?_
    refine lv_if_ne (tgt := 437) hx hb d_LW_law_422 (by decide) (fun c0 => absurd c0 (by decide)) (fun _ => ?_)
    have hP : va_P (gD G) cls9 (va_pl (LM A) (mF G A M1) ++ va_pl (out :: L1) f9) H := va_P.swap (a := []) hP
    have hD : va_D (fun q : Nat => s.heap.size ≤ q) (va_pl (LM A) (mF G A M1) ++ va_pl (out :: L1) f9) := va_D.swap (a := []) hD
    refine lv_aload_n hx hb d_LW_law_425 rfl (lv_at hl 5 rfl) ?_
    refine lv_iconst (v := 0) hx hb d_LW_law_426 (by decide) ?_
    have hin4 : vp_in 0 1 := vp_in_nI (n := 0) (N := 1) (by decide) (by decide)
    refine pz_lald hx hb hK hP 1 (List.mem_cons_self) ho1 rfl hin4 d_LW_law_427 ?_
    refine lv_topl (fun x5 (ex5 : x5 = g1 0) => ?_)
    subst ex5
    refine lv_iload hx hb d_LW_law_428 (lv_at hl 0 rfl) ?_
    refine lv_i2l hx hb d_LW_law_430 rfl ?_
    refine pz_leq (tgt := 437) hx hb d_LW_law_431 d_LW_law_432 (by decide) (fun _ => ?_) (fun c0 => absurd hg1 c0)
    have hl9 : S9.1.length = its.length + 1 := by rw [show S9.1 = its ++ [.inr (.inr (.inr v1))] from hit9, List.length_append]; rfl
    refine lv_goto (tgt := 711) hx hb d_LW_law_437 (by decide) ?_
    refine W.widen (k := 22 + 2 * (n + 1) + 7 * S9.2.2.1.length) (n := 24067 + 904 * (n + 1) + 933 * S9.2.2.1.length) (by omega) (by omega) ?_
    exact kk L1 f9 M1 S9 H locs ls ⟨⟨al, ad1, el, ed1, fr, op1, to1, sa1, fo1, xs1, ys1, hR1⟩, ⟨g1, ho1⟩, hJr, hMR, by omega⟩ hP hD hS (lv_sub hl [2, 3, 4, 5, 6] rfl)
  · refine lv_aload_n hx hb d_LW_law_384 rfl (lv_at hl 1 rfl) ?_
    refine lv_aload_n hx hb d_LW_law_385 rfl (lv_at hl 0 rfl) ?_
    refine lv_iload hx hb d_LW_law_386 (lv_at hl 4 rfl) ?_
    refine lv_iconst (v := 1) hx hb d_LW_law_388 (by decide) ?_
    refine lv_iadd hx hb d_LW_law_389 ?_
    refine lv_topi (fun x6 ex6 => ?_)
    have ex6 : x6 = nI (5 * n + 1) := ex6.trans (nI_add (5 * n) 1)
    subst ex6
    refine law_sld (j := (5 * n + 1)) (v := v1) hv19 hx hb hX hbl hbA hS (by omega) (by omega) d_LW_law_390 ?_
    refine lv_aload_n hx hb d_LW_law_391 rfl (lv_at hl 3 rfl) ?_
    refine pz_ci (vx_runSW (As := [.ref pm, .int v1, .ref out]) (rest := []) ⟨hx, hb, hml, hown, hts⟩ (x_LW_penalty l hl9 G L f _ pm al ad el ed fr op to sa fo xs9 ys its F9 pgs F P T out g v1 hR hout hok) (vx_cwSW 3 hts (tb_SS tw_584 tw_585 tw_0 tw_586) rfl rfl rfl (by decide +kernel) ⟨(Nat.le_of_ble_eq_true rfl), (Nat.le_of_ble_eq_true rfl)⟩) (pz_pre (zz_ok _ _ _) hK hP hD hS hA hz) rfl rfl hl.1 rfl (lv_room (Nat.le_of_ble_eq_true rfl)) d_LW_law_392 ⟨(by show _ ≤ 601024; omega), (by show _ ≤ 7293034; omega)⟩) hP hD hS hA (fun r9 L9 f9 H locs hw hP hD hS => ?_)
    obtain ⟨er9, hu⟩ := hw
    subst er9
    have eL9 : L9 = out :: L := (Prod.mk.inj hu).1
    have ef9 : f9 = f := (Prod.mk.inj hu).2
    rw [eL9, ef9] at hP hD
    refine lv_istore (lv' := [(5, .int 1), (0, .ref b), (1, .ref pm), (2, .ref (A 0)), (3, .ref out), (4, .int (nI (5 * n)))]) hx hb d_LW_law_395 hl (by decide) rfl (fun ls hl => ?_)
    refine lv_aload_n hx hb d_LW_law_397 rfl (lv_at hl 3 rfl) ?_
    refine lv_aload_n hx hb d_LW_law_398 rfl (lv_at hl 1 rfl) ?_
    refine lv_iload hx hb d_LW_law_399 (lv_at hl 5 rfl) ?_
    refine lv_iconst (v := 1) hx hb d_LW_law_401 (by decide) ?_
    refine lv_iadd hx hb d_LW_law_402 ?_
    refine lv_topi (fun x7 ex7 => ?_)
    have ex7 : x7 = nI (5 * n + 1) := ex7.trans (nI_add (5 * n) 1)
    subst ex7
    refine law_sld (j := (5 * n + 1)) (v := v1) hv19 hx hb hX hbl hbA hS (by omega) (by omega) d_LW_law_403 ?_
    have hP : va_P (gD G) cls9 (va_pl (out :: L) f ++ va_pl (LM A) (mF G A M)) H := va_P.swap (a := []) hP
    have hD : va_D (fun q : Nat => s.heap.size ≤ q) (va_pl (out :: L) f ++ va_pl (LM A) (mF G A M)) := va_D.swap (a := []) hD
    refine pz_ci (va_runV (As := [.int v1]) (rest := []) ⟨hx, hb, hml, hown, hts⟩ (x_MD_penalty l G A hA9 M _ v1 hok) (cwV 1 hts (tb_V tw_839 tw_840 tw_841 tw_8 tw_842) rfl rfl rfl (by decide +kernel) ⟨(Nat.le_of_ble_eq_true rfl), (Nat.le_of_ble_eq_true rfl)⟩) (pz_preV (zz_ok _ _ _) hK hP hD hS hA hz (ci := 10) rfl rfl (lm_in (by decide)) (mf_at hA9 M 0 (by decide))) rfl rfl hl.1 rfl (lv_room (Nat.le_of_ble_eq_true rfl)) d_LW_law_404 ⟨(by show _ ≤ 601024; omega), (by show _ ≤ 7293034; omega)⟩) hP hD hS hA (fun r7 L8 f8 H locs hw hP hD hS => ?_)
    obtain ⟨er7, hu⟩ := hw
    subst er7
    have eL8 : L8 = LM A := (Prod.mk.inj hu).1
    have ef8 : f8 = mF G A (M.si 0 1) := (Prod.mk.inj hu).2
    subst eL8
    subst ef8
    refine lv_istore (lv' := [(6, .int 0), (5, .int 1), (0, .ref b), (1, .ref pm), (2, .ref (A 0)), (3, .ref out), (4, .int (nI (5 * n)))]) hx hb d_LW_law_407 hl (by decide) rfl (fun ls hl => ?_)
    refine lv_aload_n hx hb d_LW_law_409 rfl (lv_at hl 4 rfl) ?_
    refine vp_callSi (va_Run.run (va_runV (As := []) (rest := []) ⟨hx, hb, hml, hown, hts⟩ (c_MD_thrown l G A hA9 (M.si 0 1) _) (cwV 0 hts (tb_V tw_762 tw_763 tw_764 tw_8 tw_765) rfl rfl rfl (by decide +kernel) ⟨(Nat.le_of_ble_eq_true rfl), (Nat.le_of_ble_eq_true rfl)⟩) (pz_preV (zz_ok _ _ _) hK hP hD hS hA hz (ci := 10) rfl rfl (lm_in (by decide)) (mf_at hA9 (M.si 0 1) 0 (by decide))) rfl rfl hl.1 rfl (lv_room (Nat.le_of_ble_eq_true rfl)) d_LW_law_410 ⟨(by show _ ≤ 601024; omega), (by show _ ≤ 7293034; omega)⟩)) (fun r8 hw => ?_)
    have hw : r8 = 1 := hw.trans rfl
    subst hw
    refine lv_iload hx hb d_LW_law_413 (lv_at hl 1 rfl) ?_
    refine lv_icmp_eq (tgt := 420) hx hb d_LW_law_415 (by decide) (fun _ => ?_) (fun c0 => absurd c0 (by decide))
    refine lv_iload hx hb d_LW_law_420 (lv_at hl 1 rfl) ?_
    refine lv_if_ne (tgt := 437) hx hb d_LW_law_422 (by decide) (fun _ => ?_) (fun c0 => absurd c0 (by decide))
    have hP : va_P (gD G) cls9 (va_pl (LM A) (mF G A (M.si 0 1)) ++ va_pl (out :: L) f) H := va_P.swap (a := []) hP
    have hD : va_D (fun q : Nat => s.heap.size ≤ q) (va_pl (LM A) (mF G A (M.si 0 1)) ++ va_pl (out :: L) f) := va_D.swap (a := []) hD
    refine lv_goto (tgt := 711) hx hb d_LW_law_437 (by decide) ?_
    refine W.widen (k := 22 + 2 * (n + 1) + 7 * pgs.length) (n := 24067 + 904 * (n + 1) + 933 * pgs.length) (by omega) (by omega) ?_
    exact kk L f (M.si 0 1) (its, F9, pgs, F, P, T) H locs ls ⟨⟨al, ad, el, ed, fr, op, to, sa, fo, xs9, ys, hR⟩, ⟨g, hout⟩, hJ, mr_th hM, by show its.length ≤ n + 1; omega⟩ hP hD hS (lv_sub hl [2, 3, 4, 5, 6] rfl)
