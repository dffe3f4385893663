/-! THE MODEL: openPage, goOn, append -/
theorem nobox_0 (its : List It) (b : Nat) : nobox its b b := fun i h1 h2 => absurd h2 (by omega)
theorem nobox_s {its : List It} {b k : Nat} (h : nobox its b k) (h1 : ∀ b0 b1, its[k]? ≠ some (.inl (b0, b1))) : nobox its b (k + 1) := fun i h2 h3 => by
  by_cases e : i = k
  · subst e
    exact h1
  · exact h i h2 (by omega)
theorem up_same {f : Nat → Int32} {k : Nat} {x : Int32} (h : f k = x) : f = va_up f k x := by
  funext i
  by_cases e : i = k
  · subst e
    rw [va_up_self]
    exact h
  · rw [va_up_ne _ _ e]
/-- where goOn is: before a page, or in one -/
def MG (M : MS) (S : CS) (k : Nat) : Prop := MB M S.1 S.2.1 S.2.2.1 ∧ ((S.2.2.2.2.1 = op_0 ∧ S.2.2.2.2.2 = t_0 ∧ M.io = 0 ∧ M.bg = nI k) ∨ ∃ a j, k = a + j + 1 ∧ (∃ b0 b1, S.1[a]? = some (.inl (b0, b1))) ∧ S.2.2.2.2.1 = sP S.1 S.2.2.2.1 a j ∧ S.2.2.2.2.2 = t_list S.1 S.2.2.2.1 a (a + j + 1) ∧ (∀ i, i < j → (sL S.1 S.2.2.2.1 a i).1 = false) ∧ M.io = 1 ∧ M.bg = nI a ∧ PR M.r S.2.2.1.length S.2.2.2.1 a)
theorem j_pgs {S : CS} {k : Nat} (h : J S k) : S.2.2.1.length ≤ 512 := by
  obtain ⟨-, hn, -, -, hk, h⟩ := h
  rcases h with ⟨-, -, h⟩ | ⟨a, j, e, h⟩
  · have := h.1
    omega
  · have := h.2.2.2.2.1.1
    omega
theorem j_open {its : List It} {F9 : Fr} {pgs : List (Fr × Pg)} {F : Fr} {P : Op} {T : Tt} {k a : Nat} (h : J (its, F9, pgs, F, P, T) k) (hP : P.1 = nI a) (ha : a < 2 ^ 31) : FV F ∧ LO pgs a := by
  obtain ⟨-, hn, -, -, hk, h⟩ := h
  rcases h with ⟨e, -, -⟩ | ⟨a1, j, e, h1, h2, h3, h4, h5, h6⟩
  · have e : P = op_0 := e
    rw [e] at hP
    exact absurd hP.symm (nI_nm ha)
  · have h2 : P = sP its F a1 j := h2
    rw [h2, sP_1] at hP
    have hk : k ≤ its.length := hk
    have hn : its.length ≤ 512 := hn
    have e1 : a1 = a := by
      have h9 := congrArg cN hP
      rw [cN_nI (by omega), cN_nI ha] at h9
      exact h9
    subst e1
    exact ⟨h6, h5⟩
theorem mb_keep {M M1 : MS} {its : List It} {F9 : Fr} {pgs : List (Fr × Pg)} {x y : Int32} (h : MB M its F9 pgs) (hi : M1.i = va_up (va_up M.i 8 x) 9 y) (hr : M1.r = M.r) : MB M1 its F9 pgs := by
  obtain ⟨h1, h2, h3, h4, h5, h6⟩ := h
  refine ⟨?_, (congrFun hi 2).trans h2, (congrFun hi 3).trans h3, (congrFun hi 4).trans h4, (congrFun hi 5).trans h5, ?_⟩
  · rw [hr, show M1.ct = M.ct from congrFun hi 1]
    exact h1
  · rw [hr]
    exact h6
theorem mb_end {M1 M3 : MS} {its : List It} {F9 F : Fr} {pgs : List (Fr × Pg)} {g : Pg} {a : Nat} {X Y Z B : Int32} (h : MB M1 its F9 pgs) (hp : PR M1.r pgs.length F a) (hi : M3.i = va_up (va_up (va_up (va_up (va_up M1.i 8 X) 9 Y) 6 B) 5 (nI (pgs.length + 1))) 7 0) (hr : M3.r = va_up (va_up (va_up M1.r 12 (upd (M1.r 12) pgs.length Z)) 10 (upd (M1.r 10) pgs.length B)) 11 (upd (M1.r 11) pgs.length Y)) (g1 : g.1 = nI a) (g2 : B = g.2.1) (g3 : Y = g.2.2.1) (g4 : Z = g.2.2.2.2.1) : MB M3 its F9 (pgs ++ [(F, g)]) := by
  obtain ⟨h1, h2, h3, h4, h5, h6⟩ := h
  have kp : ∀ c, c ≠ 10 → c ≠ 11 → c ≠ 12 → M3.r c = M1.r c := fun c e1 e2 e3 => by
    rw [hr, va_up_ne _ _ e2, va_up_ne _ _ e1, va_up_ne _ _ e3]
  have e10 : M3.r 10 = upd (M1.r 10) pgs.length B := by rw [hr]; rfl
  have e11 : M3.r 11 = upd (M1.r 11) pgs.length Y := by rw [hr]; rfl
  have e12 : M3.r 12 = upd (M1.r 12) pgs.length Z := by rw [hr]; rfl
  refine ⟨?_, (congrFun hi 2).trans h2, (congrFun hi 3).trans h3, (congrFun hi 4).trans h4, by rw [List.length_append]; exact congrFun hi 5, ?_⟩
  · rw [show M3.ct = M1.ct from congrFun hi 1]
    exact mit_cg h1 (fun j hj1 hj2 => kp j (by omega) (by omega) (by omega))
  · refine pgm_snoc (pgm_keep h6 (fun c i c1 c2 hi9 => ?_)) ⟨?_, ?_, ?_, ?_⟩ g1 ?_ ?_ ?_
    · have hne : i ≠ pgs.length := by omega
      by_cases q1 : c = 10
      · rw [q1, e10, up_no hne]
      · by_cases q2 : c = 11
        · rw [q2, e11, up_no hne]
        · by_cases q3 : c = 12
          · rw [q3, e12, up_no hne]
          · rw [kp c q1 q2 q3]
    · rw [kp 6 (by decide) (by decide) (by decide)]; exact hp.1
    · rw [kp 7 (by decide) (by decide) (by decide)]; exact hp.2.1
    · rw [kp 8 (by decide) (by decide) (by decide)]; exact hp.2.2.1
    · rw [kp 9 (by decide) (by decide) (by decide)]; exact hp.2.2.2
    · rw [e10, up_at]; exact g2
    · rw [e11, up_at]; exact g3
    · rw [e12, up_at]; exact g4
/-- the five numbers that append gets for an item -/
def enM (it : It) (kd a b c o : Int32) : Prop := match it with
  | .inl (h, d) => kd = 0 ∧ b = h ∧ c = d
  | .inr (.inl (w, s, o9, d)) => kd = 1 ∧ a = w ∧ b = s ∧ c = d ∧ o = o9
  | .inr (.inr (.inl w)) => kd = 2 ∧ a = w
  | .inr (.inr (.inr p)) => kd = 3 ∧ a = p
theorem mr_th {M : MS} {S : CS} {x : Int32} (h : MR M S) : MR (M.si 0 x) S := h
theorem nI_2000 {n : Nat} (h : n < 512) : ¬ nI n = 2000 := fun e => by
  have h9 := congrArg cN e
  rw [cN_nI (by omega), show cN 2000 = 2000 by decide] at h9
  omega
theorem i32_le4 {x : Int32} (h : x < 4) : x ≤ 3 := by
  rw [Int32.lt_iff_toInt_lt] at h
  rw [Int32.le_iff_toInt_le]
  have e1 : (4 : Int32).toInt = 4 := by decide
  have e2 : (3 : Int32).toInt = 3 := by decide
  omega
theorem i32_lt4 {x : Int32} (h : x ≤ 3) : x < 4 := by
  rw [Int32.le_iff_toInt_le] at h
  rw [Int32.lt_iff_toInt_lt]
  have e1 : (4 : Int32).toInt = 4 := by decide
  have e2 : (3 : Int32).toInt = 3 := by decide
  omega
theorem i32_ge0 {x y : Int32} (h : ¬ x < y) : y ≤ x := by
  rw [Int32.lt_iff_toInt_lt] at h
  rw [Int32.le_iff_toInt_le]
  omega
theorem vp_4 {o : Int32} (h0 : 0 ≤ o) (h1 : o < 4) : vp_in o 4 := by
  have h2 := h1
  rw [Int32.le_iff_toInt_le, Int32.toInt_zero] at h0
  rw [Int32.lt_iff_toInt_lt] at h2
  have e1 : (4 : Int32).toInt = 4 := by decide
  have e2 : o = nI o.toInt.toNat := by
    apply Int32.toInt_inj.mp
    rw [nI, Int32.toInt_ofNat_of_lt (by omega)]
    omega
  rw [e2]
  exact vp_in_nI (by omega) (by decide)
theorem mg_in {M M1 : MS} {S : CS} {x : It} {kd a b c o : Int32} (hJ : J S S.1.length) (hR : MR M S) (hl : S.1.length < 512) (hi : M1.i = va_up M.i 1 (nI (S.1.length + 1))) (hr : M1.r = va_up (va_up (va_up (va_up (va_up M.r 1 (upd (M.r 1) S.1.length kd)) 2 (upd (M.r 2) S.1.length a)) 3 (upd (M.r 3) S.1.length b)) 4 (upd (M.r 4) S.1.length c)) 5 (upd (M.r 5) S.1.length o)) (hok : itOK x) (hen : enM x kd a b c o) : MG M1 (c_in S x) S.1.length := by
  obtain ⟨⟨h1, h2, h3, h4, h5, h6⟩, hR⟩ := hR
  have kp : ∀ c, 5 < c → M1.r c = M.r c := fun c e1 => by
    rw [hr, va_up_ne _ _ (by omega), va_up_ne _ _ (by omega), va_up_ne _ _ (by omega), va_up_ne _ _ (by omega), va_up_ne _ _ (by omega)]
  have e1 : M1.r 1 = upd (M.r 1) S.1.length kd := by rw [hr]; rfl
  have e2 : M1.r 2 = upd (M.r 2) S.1.length a := by rw [hr]; rfl
  have e3 : M1.r 3 = upd (M.r 3) S.1.length b := by rw [hr]; rfl
  have e4 : M1.r 4 = upd (M.r 4) S.1.length c := by rw [hr]; rfl
  have e5 : M1.r 5 = upd (M.r 5) S.1.length o := by rw [hr]; rfl
  have hx : itM M1.r S.1.length x := by
    rcases x with ⟨ia, ib⟩ | ⟨ia, ib, io, id9⟩ | ia | ia
    · obtain ⟨rfl, rfl, rfl⟩ := hen
      exact ⟨by rw [e1, up_at], by rw [e3, up_at], by rw [e4, up_at]⟩
    · obtain ⟨rfl, rfl, rfl, rfl, rfl⟩ := hen
      exact ⟨by rw [e1, up_at], by rw [e2, up_at], by rw [e3, up_at], by rw [e4, up_at], by rw [e5, up_at]⟩
    · obtain ⟨rfl, rfl⟩ := hen
      exact ⟨by rw [e1, up_at], by rw [e2, up_at]⟩
    · obtain ⟨rfl, rfl⟩ := hen
      exact ⟨by rw [e1, up_at], by rw [e2, up_at]⟩
  have hm : MIt M1.r M1.ct (S.1 ++ [x]) := mit_snoc h1 hl (fun j i j1 j2 hi9 => by
    have hne : i ≠ S.1.length := by omega
    rcases (show j = 1 ∨ j = 2 ∨ j = 3 ∨ j = 4 ∨ j = 5 by omega) with rfl | rfl | rfl | rfl | rfl
    · rw [e1, up_no hne]
    · rw [e2, up_no hne]
    · rw [e3, up_no hne]
    · rw [e4, up_no hne]
    · rw [e5, up_no hne]) (congrFun hi 1) hx hok
  refine ⟨⟨hm, (congrFun hi 2).trans h2, (congrFun hi 3).trans h3, (congrFun hi 4).trans h4, (congrFun hi 5).trans h5, pgm_keep h6 (fun c i c1 c2 _ => by rw [kp c c1])⟩, ?_⟩
  rcases hR with ⟨g1, g2, g3, g4⟩ | ⟨a9, j, hl9, hjo, g1, g2, g3, g4, g5⟩
  · exact Or.inl ⟨g1, g2, (congrFun hi 7).trans g3, (congrFun hi 6).trans g4⟩
  · obtain ⟨k1, k2, k3, k4, k5, k6⟩ := jo_pre (x := x) hjo hl9
    refine Or.inr ⟨a9, j, hl9, k1, k2, k3, k4, (congrFun hi 7).trans g1, (congrFun hi 6).trans g2, ?_⟩
    exact ⟨by rw [kp 6 (by decide)]; exact g3.1, by rw [kp 7 (by decide)]; exact g3.2.1, by rw [kp 8 (by decide)]; exact g3.2.2.1, by rw [kp 9 (by decide)]; exact g3.2.2.2⟩
/-- openPage, in pure words -/
theorem open_pure {M M1 : MS} {its : List It} {F9 F : Fr} {pgs : List (Fr × Pg)} {b : Nat} (h7 : M.io = 0) (h : MB M its F9 pgs) (hn : its.length ≤ 512) (hb : b ≤ its.length) (hw : (∃ a b0 b1, b ≤ a ∧ its[a]? = some (.inl (b0, b1)) ∧ nobox its b a ∧ M1.i = va_up (va_up M.i 6 (nI a)) 7 1 ∧ M1.r = va_up (va_up (va_up (va_up M.r 9 (upd (M.r 9) pgs.length (nI a))) 6 (upd (M.r 6) pgs.length M.ht)) 7 (upd (M.r 7) pgs.length M.tp)) 8 (upd (M.r 8) pgs.length M.gr)) ∨ (nobox its b its.length ∧ M1.i = va_up M.i 6 (nI its.length) ∧ M1.r = M.r)) : ∃ (S4 : CS) (k4 t4 : Nat), MG M1 S4 k4 ∧ CR (its, F9, pgs, F, op_0, t_0) b S4 k4 t4 ∧ t4 ≤ 600 ∧ S4.2.2.1 = pgs ∧ (M1.io = 0 → k4 = S4.1.length) ∧ M1.th = M.th := by
  obtain ⟨h1, h2, h3, h4, h5, h6⟩ := h
  rcases hw with ⟨a, b0, b1, hba, hbx, hnb, hi, hr⟩ | ⟨hnb, hi, hr⟩
  · have ha : a < its.length := (List.getElem?_eq_some_iff.mp hbx).1
    have kp : ∀ c, c ≠ 6 → c ≠ 7 → c ≠ 8 → c ≠ 9 → M1.r c = M.r c := fun c e1 e2 e3 e4 => by
      rw [hr, va_up_ne _ _ e3, va_up_ne _ _ e2, va_up_ne _ _ e1, va_up_ne _ _ e4]
    have e6 : M1.r 6 = upd (M.r 6) pgs.length M.ht := by rw [hr]; rfl
    have e7 : M1.r 7 = upd (M.r 7) pgs.length M.tp := by rw [hr]; rfl
    have e8 : M1.r 8 = upd (M.r 8) pgs.length M.gr := by rw [hr]; rfl
    have e9 : M1.r 9 = upd (M.r 9) pgs.length (nI a) := by rw [hr]; rfl
    refine ⟨(its, F9, pgs, F9, sP its F9 a 0, t_list its F9 a (a + 0 + 1)), a + 0 + 1, a - b + 1, ⟨⟨?_, (congrFun hi 2).trans h2, (congrFun hi 3).trans h3, (congrFun hi 4).trans h4, (congrFun hi 5).trans h5, ?_⟩, Or.inr ⟨a, 0, rfl, ⟨b0, b1, hbx⟩, rfl, rfl, fun i h9 => absurd h9 (Nat.not_lt_zero _), congrFun hi 7, congrFun hi 6, ?_⟩⟩, cr_open hba hbx hnb, by omega, rfl, fun h9 => ?_, congrFun hi 0⟩
    · rw [show M1.ct = M.ct from congrFun hi 1]
      exact mit_cg h1 (fun j hj1 hj2 => kp j (by omega) (by omega) (by omega) (by omega))
    · refine pgm_keep h6 (fun c i c1 c2 hi9 => ?_)
      have hi9 : i < pgs.length := hi9
      have hne : i ≠ pgs.length := by omega
      by_cases q1 : c = 6
      · rw [q1, e6, up_no hne]
      · by_cases q2 : c = 7
        · rw [q2, e7, up_no hne]
        · by_cases q3 : c = 8
          · rw [q3, e8, up_no hne]
          · by_cases q4 : c = 9
            · rw [q4, e9, up_no hne]
            · rw [kp c q1 q2 q3 q4]
    · exact ⟨by rw [e6]; exact (up_at _ _ _).trans h2, by rw [e7]; exact (up_at _ _ _).trans h3, by rw [e8]; exact (up_at _ _ _).trans h4, by rw [e9]; exact up_at _ _ _⟩
    · exact absurd (h9.symm.trans (congrFun hi 7)) (show ¬ (0 : Int32) = 1 by decide)
  · have hc := cr_skips (its := its) (F9 := F9) (pgs := pgs) (F := F) b (its.length - b) (by omega) (by rw [show b + (its.length - b) = its.length by omega]; exact hnb)
    rw [show b + (its.length - b) = its.length by omega] at hc
    refine ⟨(its, F9, pgs, F, op_0, t_0), its.length, its.length - b, ⟨⟨?_, (congrFun hi 2).trans h2, (congrFun hi 3).trans h3, (congrFun hi 4).trans h4, (congrFun hi 5).trans h5, by rw [hr]; exact h6⟩, Or.inl ⟨rfl, rfl, (congrFun hi 7).trans h7, congrFun hi 6⟩⟩, hc, by omega, rfl, fun _ => rfl, congrFun hi 0⟩
    rw [hr, show M1.ct = M.ct from congrFun hi 1]
    exact h1
set_option maxHeartbeats 4000000 in
set_option maxRecDepth 100000 in
/-- model: openPage, its loop at k -/
theorem lp_openPage (l : Launch) (G : gG) (A : Nat → Nat) (hA9 : mJn A) (M : MS) (sz : Nat) (its : List It) (b np : Nat) {p : Program} {e : Env} {s : State} {m : MethodId} {below : List Frame} {meth : Method} {c : Code} (hx : p.tables.exec = Jvm.exec) (hb : c.code = prog_12_method_14_code) (hr : meth.sig.returnType = none) (hml : c.maxLocals = 1) (hts : ∀ w ∈ w_MD_openPage, w.before ([.ref (A 0)] : List Value).toArray s = true) (hown : s.vm.findClass "PageMakerModel" = some m.cls) (hlocks : meth.locks = false) (hK : va_K (gD G) cls9 (gT G) s) (hA : ∀ q, s.heap.size ≤ q → mA (LM A) (mF G A M) sz q) (hz : gZ G (mA (LM A) (mF G A M) sz) s s.heap) (hit : MIt M.r M.ct its) (hnp : np ≤ 2000) (hM5 : M.pg = nI np) (hM7 : M.io = 0) :
    ∀ (mm k : Nat) (M1 : MS) (H : Heap) (locs : List Loc) (ls : Array Slot), k + mm = its.length → b ≤ k → nobox its b k → M1.i = va_up M.i 6 (nI k) → M1.r = M.r → va_P (gD G) cls9 ([] ++ va_pl (LM A) (mF G A M1)) H → va_D (mA (LM A) (mF G A M) sz) ([] ++ va_pl (LM A) (mF G A M1)) → va_S (mA (LM A) (mF G A M) sz) s.heap H locs → lv_has ls 1 [(0, .ref (A 0))] →
      W p l e ({ frames := 0, cells := 0, slots := 0, locals := 0 } : Room) s m ([.ref (A 0)] : List Value).toArray below meth c H locs 0 0 (MQ below (va_Qv (fun u => ∃ M1, u = (LM A, mF G A M1) ∧ ((∃ a b0 b1, b ≤ a ∧ its[a]? = some (.inl (b0, b1)) ∧ nobox its b a ∧ M1.i = va_up (va_up M.i 6 (nI a)) 7 1 ∧ M1.r = va_up (va_up (va_up (va_up M.r 9 (upd (M.r 9) np (nI a))) 6 (upd (M.r 6) np M.ht)) 7 (upd (M.r 7) np M.tp)) 8 (upd (M.r 8) np M.gr)) ∨ (nobox its b its.length ∧ M1.i = va_up M.i 6 (nI its.length) ∧ M1.r = M.r))) (pz_B (gD G) cls9 (gT G) (mA (LM A) (mF G A M) sz)) (mA (LM A) (mF G A M) sz)) ([.ref (A 0)] : List Value).toArray s 0 0 (mA (LM A) (mF G A M) sz)) (F0 m 0 ls []) := by
  have htb : ∀ w ∈ TB, w.before _ s = true := fun w h => hts w (List.mem_cons_of_mem _ h)
  have hn5 : its.length ≤ 512 := hit.2.1
  intro mm
  induction mm with
  | zero =>
    intro k M1 H locs ls hk hbk hnb hi1 hr1 hP hD hS hl
    have q1 : M1.ct = nI its.length := (congrFun hi1 1).trans hit.1
    have q2 : M1.ht = M.ht := congrFun hi1 2
    have q3 : M1.tp = M.tp := congrFun hi1 3
    have q4 : M1.gr = M.gr := congrFun hi1 4
    have q5 : M1.pg = nI np := (congrFun hi1 5).trans hM5
    have q6 : M1.bg = nI k := congrFun hi1 6
    have q7 : M1.io = 0 := (congrFun hi1 7).trans hM7
    refine lv_aload_n hx hb d_MD_openPage_0 rfl (lv_at hl 0 rfl) ?_
    have h_1 : mF G A M1 (A 0) = .inr (10, [.int M1.th, .ref (A 1), .ref (A 2), .ref (A 3), .ref (A 4), .ref (A 5), .int M1.ct, .int M1.ht, .int M1.tp, .int M1.gr, .ref (A 6), .ref (A 7), .ref (A 8), .ref (A 9), .ref (A 10), .ref (A 11), .ref (A 12), .int M1.pg, .int M1.bg, .int M1.io, .int M1.be, .int M1.le, .long M1.ln, .long M1.dp, .ref (A 13), .long M1.sh]) := mf_at hA9 M1 0 (by decide)
    refine pz_get (ci := 10) (C := "PageMakerModel") (T := T_MD) (N := 26) hx hb htb in_MD hown hK hP (lm_in (by decide)) h_1 rfl 19 (by decide) (htb _ tw_701) (fun _ h9 => h9) rfl d_MD_openPage_1 ?_
    refine lv_topi (fun x2 ex2 => ?_)
    have ex2 : x2 = 0 := ex2.trans (q7)
    subst ex2
    refine lv_if_ne (tgt := 103) hx hb d_MD_openPage_4 (by decide) (fun c0 => absurd c0 (by decide)) (fun _ => ?_)
    refine lv_aload_n hx hb d_MD_openPage_7 rfl (lv_at hl 0 rfl) ?_
    refine pz_get (ci := 10) (C := "PageMakerModel") (T := T_MD) (N := 26) hx hb htb in_MD hown hK hP (lm_in (by decide)) h_1 rfl 18 (by decide) (htb _ tw_700) (fun _ h9 => h9) rfl d_MD_openPage_8 ?_
    refine lv_topi (fun x3 ex3 => ?_)
    have ex3 : x3 = nI k := ex3.trans (q6)
    subst ex3
    refine lv_aload_n hx hb d_MD_openPage_11 rfl (lv_at hl 0 rfl) ?_
    refine pz_get (ci := 10) (C := "PageMakerModel") (T := T_MD) (N := 26) hx hb htb in_MD hown hK hP (lm_in (by decide)) h_1 rfl 6 (by decide) (htb _ tw_688) (fun _ h9 => h9) rfl d_MD_openPage_12 ?_
    refine lv_topi (fun x4 ex4 => ?_)
    have ex4 : x4 = nI its.length := ex4.trans (q1)
    subst ex4
    refine lv_icmp_ge (tgt := 103) hx hb d_MD_openPage_15 (by decide) (fun _ => ?_) (fun c0 => absurd (nI_le (by omega) (by omega)) c0)
    have hk : k = its.length := hk
    subst hk
    exact pz_vret hx hb hr hlocks hK hP hD hS (Nat.le_refl _) (Nat.le_refl _) ⟨M1, rfl, Or.inr ⟨hnb, hi1, hr1⟩⟩ d_MD_openPage_103
  | succ mm ih =>
    intro k M1 H locs ls hk hbk hnb hi1 hr1 hP hD hS hl
    have q1 : M1.ct = nI its.length := (congrFun hi1 1).trans hit.1
    have q2 : M1.ht = M.ht := congrFun hi1 2
    have q3 : M1.tp = M.tp := congrFun hi1 3
    have q4 : M1.gr = M.gr := congrFun hi1 4
    have q5 : M1.pg = nI np := (congrFun hi1 5).trans hM5
    have q6 : M1.bg = nI k := congrFun hi1 6
    have q7 : M1.io = 0 := (congrFun hi1 7).trans hM7
    obtain ⟨it, hi9⟩ : ∃ it, its[k]? = some it := ⟨_, List.getElem?_eq_getElem (by omega)⟩
    obtain ⟨him, hok⟩ := hit.2.2 k it hi9
    rw [← hr1] at him
    refine lv_aload_n hx hb d_MD_openPage_0 rfl (lv_at hl 0 rfl) ?_
    have h_5 : mF G A M1 (A 0) = .inr (10, [.int M1.th, .ref (A 1), .ref (A 2), .ref (A 3), .ref (A 4), .ref (A 5), .int M1.ct, .int M1.ht, .int M1.tp, .int M1.gr, .ref (A 6), .ref (A 7), .ref (A 8), .ref (A 9), .ref (A 10), .ref (A 11), .ref (A 12), .int M1.pg, .int M1.bg, .int M1.io, .int M1.be, .int M1.le, .long M1.ln, .long M1.dp, .ref (A 13), .long M1.sh]) := mf_at hA9 M1 0 (by decide)
    refine pz_get (ci := 10) (C := "PageMakerModel") (T := T_MD) (N := 26) hx hb htb in_MD hown hK hP (lm_in (by decide)) h_5 rfl 19 (by decide) (htb _ tw_701) (fun _ h9 => h9) rfl d_MD_openPage_1 ?_
    refine lv_topi (fun x6 ex6 => ?_)
    have ex6 : x6 = 0 := ex6.trans (q7)
    subst ex6
    refine lv_if_ne (tgt := 103) hx hb d_MD_openPage_4 (by decide) (fun c0 => absurd c0 (by decide)) (fun _ => ?_)
    refine lv_aload_n hx hb d_MD_openPage_7 rfl (lv_at hl 0 rfl) ?_
    refine pz_get (ci := 10) (C := "PageMakerModel") (T := T_MD) (N := 26) hx hb htb in_MD hown hK hP (lm_in (by decide)) h_5 rfl 18 (by decide) (htb _ tw_700) (fun _ h9 => h9) rfl d_MD_openPage_8 ?_
    refine lv_topi (fun x7 ex7 => ?_)
    have ex7 : x7 = nI k := ex7.trans (q6)
    subst ex7
    refine lv_aload_n hx hb d_MD_openPage_11 rfl (lv_at hl 0 rfl) ?_
    refine pz_get (ci := 10) (C := "PageMakerModel") (T := T_MD) (N := 26) hx hb htb in_MD hown hK hP (lm_in (by decide)) h_5 rfl 6 (by decide) (htb _ tw_688) (fun _ h9 => h9) rfl d_MD_openPage_12 ?_
    refine lv_topi (fun x8 ex8 => ?_)
    have ex8 : x8 = nI its.length := ex8.trans (q1)
    subst ex8
    refine lv_icmp_ge (tgt := 103) hx hb d_MD_openPage_15 (by decide) (fun c0 => absurd c0 (nI_ge (by omega) (by omega))) (fun _ => ?_)
    rcases it with ⟨ia, ib⟩ | ⟨ia, ib, io, id9⟩ | ia | ia
    · have him : itM M1.r k (.inl (ia, ib)) := him
      refine lv_aload_n hx hb d_MD_openPage_18 rfl (lv_at hl 0 rfl) ?_
      refine pz_get (ci := 10) (C := "PageMakerModel") (T := T_MD) (N := 26) hx hb htb in_MD hown hK hP (lm_in (by decide)) h_5 rfl 1 (by decide) (htb _ tw_683) (fun _ h9 => h9) rfl d_MD_openPage_19 ?_
      refine lv_aload_n hx hb d_MD_openPage_22 rfl (lv_at hl 0 rfl) ?_
      refine pz_get (ci := 10) (C := "PageMakerModel") (T := T_MD) (N := 26) hx hb htb in_MD hown hK hP (lm_in (by decide)) h_5 rfl 18 (by decide) (htb _ tw_700) (fun _ h9 => h9) rfl d_MD_openPage_23 ?_
      refine lv_topi (fun x9 ex9 => ?_)
      have ex9 : x9 = nI k := ex9.trans (q6)
      subst ex9
      have h_10 : mF G A M1 (A 1) = .inl (cI G, 2000, .inl M1.kd) := mf_at hA9 M1 1 (by decide)
      refine pz_iald (j := k) hx hb hK hP 0 (lm_in (by decide)) h_10 rfl (by omega) (by decide) d_MD_openPage_26 ?_
      refine lv_topi (fun x11 ex11 => ?_)
      have ex11 : x11 = 0 := ex11.trans (him.1)
      subst ex11
      refine lv_if_ne (tgt := 90) hx hb d_MD_openPage_27 (by decide) (fun c0 => absurd c0 (by decide)) (fun _ => ?_)
      refine lv_aload_n hx hb d_MD_openPage_30 rfl (lv_at hl 0 rfl) ?_
      refine lv_iconst (v := 1) hx hb d_MD_openPage_31 (by decide) ?_
      refine pz_put (ci := 10) (v := .int 1) (ty := .boolean) (C := "PageMakerModel") (T := T_MD) (N := 26) hx hb htb in_MD ty_MD to_MD nm_MD hown hK hP hD hS (lm_in (by decide)) h_5 rfl 19 (by decide) (htb _ tw_701) (fun _ h9 => h9) rfl rfl rfl rfl (Nat.le_of_ble_eq_true rfl) d_MD_openPage_32 (fun f12 H locs ef12 hP hD hS => ?_)
      have ef12 : f12 = va_up (mF G A M1) (A 0) (.inr (10, [.int M1.th, .ref (A 1), .ref (A 2), .ref (A 3), .ref (A 4), .ref (A 5), .int M1.ct, .int M1.ht, .int M1.tp, .int M1.gr, .ref (A 6), .ref (A 7), .ref (A 8), .ref (A 9), .ref (A 10), .ref (A 11), .ref (A 12), .int M1.pg, .int M1.bg, .int 1, .int M1.be, .int M1.le, .long M1.ln, .long M1.dp, .ref (A 13), .long M1.sh])) := ef12
      have ef12 : f12 = mF G A (M1.si 7 1) := ef12.trans (mf_o hA9 (M1 := M1.si 7 1) rfl rfl)
      subst ef12
      refine lv_aload_n hx hb d_MD_openPage_35 rfl (lv_at hl 0 rfl) ?_
      have h_13 : mF G A (M1.si 7 1) (A 0) = .inr (10, [.int M1.th, .ref (A 1), .ref (A 2), .ref (A 3), .ref (A 4), .ref (A 5), .int M1.ct, .int M1.ht, .int M1.tp, .int M1.gr, .ref (A 6), .ref (A 7), .ref (A 8), .ref (A 9), .ref (A 10), .ref (A 11), .ref (A 12), .int M1.pg, .int M1.bg, .int 1, .int M1.be, .int M1.le, .long M1.ln, .long M1.dp, .ref (A 13), .long M1.sh]) := mf_at hA9 (M1.si 7 1) 0 (by decide)
      refine pz_get (ci := 10) (C := "PageMakerModel") (T := T_MD) (N := 26) hx hb htb in_MD hown hK hP (lm_in (by decide)) h_13 rfl 13 (by decide) (htb _ tw_695) (fun _ h9 => h9) rfl d_MD_openPage_36 ?_
      refine lv_aload_n hx hb d_MD_openPage_39 rfl (lv_at hl 0 rfl) ?_
      refine pz_get (ci := 10) (C := "PageMakerModel") (T := T_MD) (N := 26) hx hb htb in_MD hown hK hP (lm_in (by decide)) h_13 rfl 17 (by decide) (htb _ tw_699) (fun _ h9 => h9) rfl d_MD_openPage_40 ?_
      refine lv_topi (fun x14 ex14 => ?_)
      have ex14 : x14 = nI np := ex14.trans (q5)
      subst ex14
      refine lv_aload_n hx hb d_MD_openPage_43 rfl (lv_at hl 0 rfl) ?_
      refine pz_get (ci := 10) (C := "PageMakerModel") (T := T_MD) (N := 26) hx hb htb in_MD hown hK hP (lm_in (by decide)) h_13 rfl 18 (by decide) (htb _ tw_700) (fun _ h9 => h9) rfl d_MD_openPage_44 ?_
      refine lv_topi (fun x15 ex15 => ?_)
      have ex15 : x15 = nI k := ex15.trans (q6)
      subst ex15
      have h_16 : mF G A (M1.si 7 1) (A 9) = .inl (cI G, 2001, .inl M1.fs) := mf_at hA9 (M1.si 7 1) 9 (by decide)
      refine pz_iast (j := np) hx hb hK hP hD hS 0 (lm_in (by decide)) h_16 rfl (by omega) (by decide) d_MD_openPage_47 (fun f17 H locs ef17 hP hD hS => ?_)
      have ef17 : f17 = mF G A ((M1.si 7 1).sr 9 (upd M1.fs np (nI k))) := ef17.trans (mf_r hA9 (M := M1.si 7 1) 9 (by decide) (by decide))
      subst ef17
      refine lv_aload_n hx hb d_MD_openPage_48 rfl (lv_at hl 0 rfl) ?_
      have h_18 : mF G A ((M1.si 7 1).sr 9 (upd M1.fs np (nI k))) (A 0) = .inr (10, [.int M1.th, .ref (A 1), .ref (A 2), .ref (A 3), .ref (A 4), .ref (A 5), .int M1.ct, .int M1.ht, .int M1.tp, .int M1.gr, .ref (A 6), .ref (A 7), .ref (A 8), .ref (A 9), .ref (A 10), .ref (A 11), .ref (A 12), .int M1.pg, .int M1.bg, .int 1, .int M1.be, .int M1.le, .long M1.ln, .long M1.dp, .ref (A 13), .long M1.sh]) := mf_at hA9 ((M1.si 7 1).sr 9 (upd M1.fs np (nI k))) 0 (by decide)
      refine pz_get (ci := 10) (C := "PageMakerModel") (T := T_MD) (N := 26) hx hb htb in_MD hown hK hP (lm_in (by decide)) h_18 rfl 10 (by decide) (htb _ tw_692) (fun _ h9 => h9) rfl d_MD_openPage_49 ?_
      refine lv_aload_n hx hb d_MD_openPage_52 rfl (lv_at hl 0 rfl) ?_
      refine pz_get (ci := 10) (C := "PageMakerModel") (T := T_MD) (N := 26) hx hb htb in_MD hown hK hP (lm_in (by decide)) h_18 rfl 17 (by decide) (htb _ tw_699) (fun _ h9 => h9) rfl d_MD_openPage_53 ?_
      refine lv_topi (fun x19 ex19 => ?_)
      have ex19 : x19 = nI np := ex19.trans (q5)
      subst ex19
      refine lv_aload_n hx hb d_MD_openPage_56 rfl (lv_at hl 0 rfl) ?_
      refine pz_get (ci := 10) (C := "PageMakerModel") (T := T_MD) (N := 26) hx hb htb in_MD hown hK hP (lm_in (by decide)) h_18 rfl 7 (by decide) (htb _ tw_689) (fun _ h9 => h9) rfl d_MD_openPage_57 ?_
      refine lv_topi (fun x20 ex20 => ?_)
      have ex20 : x20 = M.ht := ex20.trans (q2)
      subst ex20
      have h_21 : mF G A ((M1.si 7 1).sr 9 (upd M1.fs np (nI k))) (A 6) = .inl (cI G, 2001, .inl M1.hs) := mf_at hA9 ((M1.si 7 1).sr 9 (upd M1.fs np (nI k))) 6 (by decide)
      refine pz_iast (j := np) hx hb hK hP hD hS 0 (lm_in (by decide)) h_21 rfl (by omega) (by decide) d_MD_openPage_60 (fun f22 H locs ef22 hP hD hS => ?_)
      have ef22 : f22 = mF G A (((M1.si 7 1).sr 9 (upd M1.fs np (nI k))).sr 6 (upd M1.hs np M.ht)) := ef22.trans (mf_r hA9 (M := (M1.si 7 1).sr 9 (upd M1.fs np (nI k))) 6 (by decide) (by decide))
      subst ef22
      refine lv_aload_n hx hb d_MD_openPage_61 rfl (lv_at hl 0 rfl) ?_
      have h_23 : mF G A (((M1.si 7 1).sr 9 (upd M1.fs np (nI k))).sr 6 (upd M1.hs np M.ht)) (A 0) = .inr (10, [.int M1.th, .ref (A 1), .ref (A 2), .ref (A 3), .ref (A 4), .ref (A 5), .int M1.ct, .int M1.ht, .int M1.tp, .int M1.gr, .ref (A 6), .ref (A 7), .ref (A 8), .ref (A 9), .ref (A 10), .ref (A 11), .ref (A 12), .int M1.pg, .int M1.bg, .int 1, .int M1.be, .int M1.le, .long M1.ln, .long M1.dp, .ref (A 13), .long M1.sh]) := mf_at hA9 (((M1.si 7 1).sr 9 (upd M1.fs np (nI k))).sr 6 (upd M1.hs np M.ht)) 0 (by decide)
      refine pz_get (ci := 10) (C := "PageMakerModel") (T := T_MD) (N := 26) hx hb htb in_MD hown hK hP (lm_in (by decide)) h_23 rfl 11 (by decide) (htb _ tw_693) (fun _ h9 => h9) rfl d_MD_openPage_62 ?_
      refine lv_aload_n hx hb d_MD_openPage_65 rfl (lv_at hl 0 rfl) ?_
      refine pz_get (ci := 10) (C := "PageMakerModel") (T := T_MD) (N := 26) hx hb htb in_MD hown hK hP (lm_in (by decide)) h_23 rfl 17 (by decide) (htb _ tw_699) (fun _ h9 => h9) rfl d_MD_openPage_66 ?_
      refine lv_topi (fun x24 ex24 => ?_)
      have ex24 : x24 = nI np := ex24.trans (q5)
      subst ex24
      refine lv_aload_n hx hb d_MD_openPage_69 rfl (lv_at hl 0 rfl) ?_
      refine pz_get (ci := 10) (C := "PageMakerModel") (T := T_MD) (N := 26) hx hb htb in_MD hown hK hP (lm_in (by decide)) h_23 rfl 8 (by decide) (htb _ tw_690) (fun _ h9 => h9) rfl d_MD_openPage_70 ?_
      refine lv_topi (fun x25 ex25 => ?_)
      have ex25 : x25 = M.tp := ex25.trans (q3)
      subst ex25
      have h_26 : mF G A (((M1.si 7 1).sr 9 (upd M1.fs np (nI k))).sr 6 (upd M1.hs np M.ht)) (A 7) = .inl (cI G, 2001, .inl M1.ts) := mf_at hA9 (((M1.si 7 1).sr 9 (upd M1.fs np (nI k))).sr 6 (upd M1.hs np M.ht)) 7 (by decide)
      refine pz_iast (j := np) hx hb hK hP hD hS 0 (lm_in (by decide)) h_26 rfl (by omega) (by decide) d_MD_openPage_73 (fun f27 H locs ef27 hP hD hS => ?_)
      have ef27 : f27 = mF G A ((((M1.si 7 1).sr 9 (upd M1.fs np (nI k))).sr 6 (upd M1.hs np M.ht)).sr 7 (upd M1.ts np M.tp)) := ef27.trans (mf_r hA9 (M := ((M1.si 7 1).sr 9 (upd M1.fs np (nI k))).sr 6 (upd M1.hs np M.ht)) 7 (by decide) (by decide))
      subst ef27
      refine lv_aload_n hx hb d_MD_openPage_74 rfl (lv_at hl 0 rfl) ?_
      have h_28 : mF G A ((((M1.si 7 1).sr 9 (upd M1.fs np (nI k))).sr 6 (upd M1.hs np M.ht)).sr 7 (upd M1.ts np M.tp)) (A 0) = .inr (10, [.int M1.th, .ref (A 1), .ref (A 2), .ref (A 3), .ref (A 4), .ref (A 5), .int M1.ct, .int M1.ht, .int M1.tp, .int M1.gr, .ref (A 6), .ref (A 7), .ref (A 8), .ref (A 9), .ref (A 10), .ref (A 11), .ref (A 12), .int M1.pg, .int M1.bg, .int 1, .int M1.be, .int M1.le, .long M1.ln, .long M1.dp, .ref (A 13), .long M1.sh]) := mf_at hA9 ((((M1.si 7 1).sr 9 (upd M1.fs np (nI k))).sr 6 (upd M1.hs np M.ht)).sr 7 (upd M1.ts np M.tp)) 0 (by decide)
      refine pz_get (ci := 10) (C := "PageMakerModel") (T := T_MD) (N := 26) hx hb htb in_MD hown hK hP (lm_in (by decide)) h_28 rfl 12 (by decide) (htb _ tw_694) (fun _ h9 => h9) rfl d_MD_openPage_75 ?_
      refine lv_aload_n hx hb d_MD_openPage_78 rfl (lv_at hl 0 rfl) ?_
      refine pz_get (ci := 10) (C := "PageMakerModel") (T := T_MD) (N := 26) hx hb htb in_MD hown hK hP (lm_in (by decide)) h_28 rfl 17 (by decide) (htb _ tw_699) (fun _ h9 => h9) rfl d_MD_openPage_79 ?_
      refine lv_topi (fun x29 ex29 => ?_)
      have ex29 : x29 = nI np := ex29.trans (q5)
      subst ex29
      refine lv_aload_n hx hb d_MD_openPage_82 rfl (lv_at hl 0 rfl) ?_
      refine pz_get (ci := 10) (C := "PageMakerModel") (T := T_MD) (N := 26) hx hb htb in_MD hown hK hP (lm_in (by decide)) h_28 rfl 9 (by decide) (htb _ tw_691) (fun _ h9 => h9) rfl d_MD_openPage_83 ?_
      refine lv_topi (fun x30 ex30 => ?_)
      have ex30 : x30 = M.gr := ex30.trans (q4)
      subst ex30
      have h_31 : mF G A ((((M1.si 7 1).sr 9 (upd M1.fs np (nI k))).sr 6 (upd M1.hs np M.ht)).sr 7 (upd M1.ts np M.tp)) (A 8) = .inl (cI G, 2001, .inl M1.ds) := mf_at hA9 ((((M1.si 7 1).sr 9 (upd M1.fs np (nI k))).sr 6 (upd M1.hs np M.ht)).sr 7 (upd M1.ts np M.tp)) 8 (by decide)
      refine pz_iast (j := np) hx hb hK hP hD hS 0 (lm_in (by decide)) h_31 rfl (by omega) (by decide) d_MD_openPage_86 (fun f32 H locs ef32 hP hD hS => ?_)
      have ef32 : f32 = mF G A (((((M1.si 7 1).sr 9 (upd M1.fs np (nI k))).sr 6 (upd M1.hs np M.ht)).sr 7 (upd M1.ts np M.tp)).sr 8 (upd M1.ds np M.gr)) := ef32.trans (mf_r hA9 (M := (((M1.si 7 1).sr 9 (upd M1.fs np (nI k))).sr 6 (upd M1.hs np M.ht)).sr 7 (upd M1.ts np M.tp)) 8 (by decide) (by decide))
      subst ef32
      refine lv_goto (tgt := 0) hx hb d_MD_openPage_87 (by decide) ?_
      refine lv_aload_n hx hb d_MD_openPage_0 rfl (lv_at hl 0 rfl) ?_
      have h_33 : mF G A (((((M1.si 7 1).sr 9 (upd M1.fs np (nI k))).sr 6 (upd M1.hs np M.ht)).sr 7 (upd M1.ts np M.tp)).sr 8 (upd M1.ds np M.gr)) (A 0) = .inr (10, [.int M1.th, .ref (A 1), .ref (A 2), .ref (A 3), .ref (A 4), .ref (A 5), .int M1.ct, .int M1.ht, .int M1.tp, .int M1.gr, .ref (A 6), .ref (A 7), .ref (A 8), .ref (A 9), .ref (A 10), .ref (A 11), .ref (A 12), .int M1.pg, .int M1.bg, .int 1, .int M1.be, .int M1.le, .long M1.ln, .long M1.dp, .ref (A 13), .long M1.sh]) := mf_at hA9 (((((M1.si 7 1).sr 9 (upd M1.fs np (nI k))).sr 6 (upd M1.hs np M.ht)).sr 7 (upd M1.ts np M.tp)).sr 8 (upd M1.ds np M.gr)) 0 (by decide)
      refine pz_get (ci := 10) (C := "PageMakerModel") (T := T_MD) (N := 26) hx hb htb in_MD hown hK hP (lm_in (by decide)) h_33 rfl 19 (by decide) (htb _ tw_701) (fun _ h9 => h9) rfl d_MD_openPage_1 ?_
      refine lv_if_ne (tgt := 103) hx hb d_MD_openPage_4 (by decide) (fun _ => ?_) (fun c0 => absurd c0 (by decide))
      exact pz_vret hx hb hr hlocks hK hP hD hS (Nat.le_refl _) (Nat.le_refl _) ⟨((((M1.si 7 1).sr 9 (upd M1.fs np (nI k))).sr 6 (upd M1.hs np M.ht)).sr 7 (upd M1.ts np M.tp)).sr 8 (upd M1.ds np M.gr), rfl, Or.inl ⟨k, ia, ib, hbk, hi9, hnb, by show va_up M1.i 7 1 = _; rw [hi1], by show va_up (va_up (va_up (va_up M1.r 9 (upd (M1.r 9) np (nI k))) 6 (upd (M1.r 6) np M.ht)) 7 (upd (M1.r 7) np M.tp)) 8 (upd (M1.r 8) np M.gr) = _; rw [hr1]⟩⟩ d_MD_openPage_103
    · have him : itM M1.r k (.inr (.inl (ia, ib, io, id9))) := him
      refine lv_aload_n hx hb d_MD_openPage_18 rfl (lv_at hl 0 rfl) ?_
      refine pz_get (ci := 10) (C := "PageMakerModel") (T := T_MD) (N := 26) hx hb htb in_MD hown hK hP (lm_in (by decide)) h_5 rfl 1 (by decide) (htb _ tw_683) (fun _ h9 => h9) rfl d_MD_openPage_19 ?_
      refine lv_aload_n hx hb d_MD_openPage_22 rfl (lv_at hl 0 rfl) ?_
      refine pz_get (ci := 10) (C := "PageMakerModel") (T := T_MD) (N := 26) hx hb htb in_MD hown hK hP (lm_in (by decide)) h_5 rfl 18 (by decide) (htb _ tw_700) (fun _ h9 => h9) rfl d_MD_openPage_23 ?_
      refine lv_topi (fun x34 ex34 => ?_)
      have ex34 : x34 = nI k := ex34.trans (q6)
      subst ex34
      have h_35 : mF G A M1 (A 1) = .inl (cI G, 2000, .inl M1.kd) := mf_at hA9 M1 1 (by decide)
      refine pz_iald (j := k) hx hb hK hP 0 (lm_in (by decide)) h_35 rfl (by omega) (by decide) d_MD_openPage_26 ?_
      refine lv_topi (fun x36 ex36 => ?_)
      have ex36 : x36 = 1 := ex36.trans (him.1)
      subst ex36
      refine lv_if_ne (tgt := 90) hx hb d_MD_openPage_27 (by decide) (fun _ => ?_) (fun c0 => absurd c0 (by decide))
      refine lv_aload_n hx hb d_MD_openPage_90 rfl (lv_at hl 0 rfl) ?_
      refine lv_dup hx hb d_MD_openPage_91 rfl ?_
      refine pz_get (ci := 10) (C := "PageMakerModel") (T := T_MD) (N := 26) hx hb htb in_MD hown hK hP (lm_in (by decide)) h_5 rfl 18 (by decide) (htb _ tw_700) (fun _ h9 => h9) rfl d_MD_openPage_92 ?_
      refine lv_topi (fun x37 ex37 => ?_)
      have ex37 : x37 = nI k := ex37.trans (q6)
      subst ex37
      refine lv_iconst (v := 1) hx hb d_MD_openPage_95 (by decide) ?_
      refine lv_iadd hx hb d_MD_openPage_96 ?_
      refine lv_topi (fun x38 ex38 => ?_)
      have ex38 : x38 = nI (k + 1) := ex38.trans (nI_1 _)
      subst ex38
      refine pz_put (ci := 10) (v := .int (nI (k + 1))) (ty := .int) (C := "PageMakerModel") (T := T_MD) (N := 26) hx hb htb in_MD ty_MD to_MD nm_MD hown hK hP hD hS (lm_in (by decide)) h_5 rfl 18 (by decide) (htb _ tw_700) (fun _ h9 => h9) rfl rfl rfl rfl (Nat.le_of_ble_eq_true rfl) d_MD_openPage_97 (fun f39 H locs ef39 hP hD hS => ?_)
      have ef39 : f39 = va_up (mF G A M1) (A 0) (.inr (10, [.int M1.th, .ref (A 1), .ref (A 2), .ref (A 3), .ref (A 4), .ref (A 5), .int M1.ct, .int M1.ht, .int M1.tp, .int M1.gr, .ref (A 6), .ref (A 7), .ref (A 8), .ref (A 9), .ref (A 10), .ref (A 11), .ref (A 12), .int M1.pg, .int (nI (k + 1)), .int M1.io, .int M1.be, .int M1.le, .long M1.ln, .long M1.dp, .ref (A 13), .long M1.sh])) := ef39
      have ef39 : f39 = mF G A (M1.si 6 (nI (k + 1))) := ef39.trans (mf_o hA9 (M1 := M1.si 6 (nI (k + 1))) rfl rfl)
      subst ef39
      refine lv_goto (tgt := 0) hx hb d_MD_openPage_100 (by decide) ?_
      exact ih (k + 1) (M1.si 6 (nI (k + 1))) H locs ls (by omega) (by omega) (nobox_s hnb (by rw [hi9]; intro b0 b1 h9; cases h9)) (by show va_up M1.i 6 _ = _; rw [hi1, bx_uu]) hr1 hP hD hS hl
    · have him : itM M1.r k (.inr (.inr (.inl ia))) := him
      refine lv_aload_n hx hb d_MD_openPage_18 rfl (lv_at hl 0 rfl) ?_
      refine pz_get (ci := 10) (C := "PageMakerModel") (T := T_MD) (N := 26) hx hb htb in_MD hown hK hP (lm_in (by decide)) h_5 rfl 1 (by decide) (htb _ tw_683) (fun _ h9 => h9) rfl d_MD_openPage_19 ?_
      refine lv_aload_n hx hb d_MD_openPage_22 rfl (lv_at hl 0 rfl) ?_
      refine pz_get (ci := 10) (C := "PageMakerModel") (T := T_MD) (N := 26) hx hb htb in_MD hown hK hP (lm_in (by decide)) h_5 rfl 18 (by decide) (htb _ tw_700) (fun _ h9 => h9) rfl d_MD_openPage_23 ?_
      refine lv_topi (fun x40 ex40 => ?_)
      have ex40 : x40 = nI k := ex40.trans (q6)
      subst ex40
      have h_41 : mF G A M1 (A 1) = .inl (cI G, 2000, .inl M1.kd) := mf_at hA9 M1 1 (by decide)
      refine pz_iald (j := k) hx hb hK hP 0 (lm_in (by decide)) h_41 rfl (by omega) (by decide) d_MD_openPage_26 ?_
      refine lv_topi (fun x42 ex42 => ?_)
      have ex42 : x42 = 2 := ex42.trans (him.1)
      subst ex42
      refine lv_if_ne (tgt := 90) hx hb d_MD_openPage_27 (by decide) (fun _ => ?_) (fun c0 => absurd c0 (by decide))
      refine lv_aload_n hx hb d_MD_openPage_90 rfl (lv_at hl 0 rfl) ?_
      refine lv_dup hx hb d_MD_openPage_91 rfl ?_
      refine pz_get (ci := 10) (C := "PageMakerModel") (T := T_MD) (N := 26) hx hb htb in_MD hown hK hP (lm_in (by decide)) h_5 rfl 18 (by decide) (htb _ tw_700) (fun _ h9 => h9) rfl d_MD_openPage_92 ?_
      refine lv_topi (fun x43 ex43 => ?_)
      have ex43 : x43 = nI k := ex43.trans (q6)
      subst ex43
      refine lv_iconst (v := 1) hx hb d_MD_openPage_95 (by decide) ?_
      refine lv_iadd hx hb d_MD_openPage_96 ?_
      refine lv_topi (fun x44 ex44 => ?_)
      have ex44 : x44 = nI (k + 1) := ex44.trans (nI_1 _)
      subst ex44
      refine pz_put (ci := 10) (v := .int (nI (k + 1))) (ty := .int) (C := "PageMakerModel") (T := T_MD) (N := 26) hx hb htb in_MD ty_MD to_MD nm_MD hown hK hP hD hS (lm_in (by decide)) h_5 rfl 18 (by decide) (htb _ tw_700) (fun _ h9 => h9) rfl rfl rfl rfl (Nat.le_of_ble_eq_true rfl) d_MD_openPage_97 (fun f45 H locs ef45 hP hD hS => ?_)
      have ef45 : f45 = va_up (mF G A M1) (A 0) (.inr (10, [.int M1.th, .ref (A 1), .ref (A 2), .ref (A 3), .ref (A 4), .ref (A 5), .int M1.ct, .int M1.ht, .int M1.tp, .int M1.gr, .ref (A 6), .ref (A 7), .ref (A 8), .ref (A 9), .ref (A 10), .ref (A 11), .ref (A 12), .int M1.pg, .int (nI (k + 1)), .int M1.io, .int M1.be, .int M1.le, .long M1.ln, .long M1.dp, .ref (A 13), .long M1.sh])) := ef45
      have ef45 : f45 = mF G A (M1.si 6 (nI (k + 1))) := ef45.trans (mf_o hA9 (M1 := M1.si 6 (nI (k + 1))) rfl rfl)
      subst ef45
      refine lv_goto (tgt := 0) hx hb d_MD_openPage_100 (by decide) ?_
      exact ih (k + 1) (M1.si 6 (nI (k + 1))) H locs ls (by omega) (by omega) (nobox_s hnb (by rw [hi9]; intro b0 b1 h9; cases h9)) (by show va_up M1.i 6 _ = _; rw [hi1, bx_uu]) hr1 hP hD hS hl
    · have him : itM M1.r k (.inr (.inr (.inr ia))) := him
      refine lv_aload_n hx hb d_MD_openPage_18 rfl (lv_at hl 0 rfl) ?_
      refine pz_get (ci := 10) (C := "PageMakerModel") (T := T_MD) (N := 26) hx hb htb in_MD hown hK hP (lm_in (by decide)) h_5 rfl 1 (by decide) (htb _ tw_683) (fun _ h9 => h9) rfl d_MD_openPage_19 ?_
      refine lv_aload_n hx hb d_MD_openPage_22 rfl (lv_at hl 0 rfl) ?_
      refine pz_get (ci := 10) (C := "PageMakerModel") (T := T_MD) (N := 26) hx hb htb in_MD hown hK hP (lm_in (by decide)) h_5 rfl 18 (by decide) (htb _ tw_700) (fun _ h9 => h9) rfl d_MD_openPage_23 ?_
      refine lv_topi (fun x46 ex46 => ?_)
      have ex46 : x46 = nI k := ex46.trans (q6)
      subst ex46
      have h_47 : mF G A M1 (A 1) = .inl (cI G, 2000, .inl M1.kd) := mf_at hA9 M1 1 (by decide)
      refine pz_iald (j := k) hx hb hK hP 0 (lm_in (by decide)) h_47 rfl (by omega) (by decide) d_MD_openPage_26 ?_
      refine lv_topi (fun x48 ex48 => ?_)
      have ex48 : x48 = 3 := ex48.trans (him.1)
      subst ex48
      refine lv_if_ne (tgt := 90) hx hb d_MD_openPage_27 (by decide) (fun _ => ?_) (fun c0 => absurd c0 (by decide))
      refine lv_aload_n hx hb d_MD_openPage_90 rfl (lv_at hl 0 rfl) ?_
      refine lv_dup hx hb d_MD_openPage_91 rfl ?_
      refine pz_get (ci := 10) (C := "PageMakerModel") (T := T_MD) (N := 26) hx hb htb in_MD hown hK hP (lm_in (by decide)) h_5 rfl 18 (by decide) (htb _ tw_700) (fun _ h9 => h9) rfl d_MD_openPage_92 ?_
      refine lv_topi (fun x49 ex49 => ?_)
      have ex49 : x49 = nI k := ex49.trans (q6)
      subst ex49
      refine lv_iconst (v := 1) hx hb d_MD_openPage_95 (by decide) ?_
      refine lv_iadd hx hb d_MD_openPage_96 ?_
      refine lv_topi (fun x50 ex50 => ?_)
      have ex50 : x50 = nI (k + 1) := ex50.trans (nI_1 _)
      subst ex50
      refine pz_put (ci := 10) (v := .int (nI (k + 1))) (ty := .int) (C := "PageMakerModel") (T := T_MD) (N := 26) hx hb htb in_MD ty_MD to_MD nm_MD hown hK hP hD hS (lm_in (by decide)) h_5 rfl 18 (by decide) (htb _ tw_700) (fun _ h9 => h9) rfl rfl rfl rfl (Nat.le_of_ble_eq_true rfl) d_MD_openPage_97 (fun f51 H locs ef51 hP hD hS => ?_)
      have ef51 : f51 = va_up (mF G A M1) (A 0) (.inr (10, [.int M1.th, .ref (A 1), .ref (A 2), .ref (A 3), .ref (A 4), .ref (A 5), .int M1.ct, .int M1.ht, .int M1.tp, .int M1.gr, .ref (A 6), .ref (A 7), .ref (A 8), .ref (A 9), .ref (A 10), .ref (A 11), .ref (A 12), .int M1.pg, .int (nI (k + 1)), .int M1.io, .int M1.be, .int M1.le, .long M1.ln, .long M1.dp, .ref (A 13), .long M1.sh])) := ef51
      have ef51 : f51 = mF G A (M1.si 6 (nI (k + 1))) := ef51.trans (mf_o hA9 (M1 := M1.si 6 (nI (k + 1))) rfl rfl)
      subst ef51
      refine lv_goto (tgt := 0) hx hb d_MD_openPage_100 (by decide) ?_
      exact ih (k + 1) (M1.si 6 (nI (k + 1))) H locs ls (by omega) (by omega) (nobox_s hnb (by rw [hi9]; intro b0 b1 h9; cases h9)) (by show va_up M1.i 6 _ = _; rw [hi1, bx_uu]) hr1 hP hD hS hl
set_option maxHeartbeats 4000000 in
set_option maxRecDepth 100000 in
/-- model: openPage -/
theorem c_MD_openPage (l : Launch) (G : gG) (A : Nat → Nat) (hA9 : mJn A) (M : MS) (sz : Nat) (its : List It) (b np : Nat) (hit : MIt M.r M.ct its) (hnp : np ≤ 2000) (hM5 : M.pg = nI np) (hM7 : M.io = 0) (hM6 : M.bg = nI b) (hbn : b ≤ its.length) : mV l y_MD_openPage w_MD_openPage ({ frames := 0, cells := 0, slots := 0, locals := 0 }) G (LM A) (mF G A M) sz [.ref (A 0)] 0 0 (fun u => ∃ M1, u = (LM A, mF G A M1) ∧ ((∃ a b0 b1, b ≤ a ∧ its[a]? = some (.inl (b0, b1)) ∧ nobox its b a ∧ M1.i = va_up (va_up M.i 6 (nI a)) 7 1 ∧ M1.r = va_up (va_up (va_up (va_up M.r 9 (upd (M.r 9) np (nI a))) 6 (upd (M.r 6) np M.ht)) 7 (upd (M.r 7) np M.tp)) 8 (upd (M.r 8) np M.gr)) ∨ (nobox its b its.length ∧ M1.i = va_up M.i 6 (nI its.length) ∧ M1.r = M.r))) := by
  refine pz_met (cc := prog_12_method_14_code) (maxL := 1) (ret := none) (by decide) rfl (Nat.le_of_ble_eq_true rfl) ?_
  intro p e s m below meth c ls hx hb hr hml hts hown hlocks hin hsz hK hP hD hS hA hz hl
  have htb : ∀ w ∈ TB, w.before _ s = true := fun w h => hts w (List.mem_cons_of_mem _ h)
  have hl : lv_has ls 1 [(0, .ref (A 0))] := hl
  exact lp_openPage l G A hA9 M sz its b np hx hb hr hml hts hown hlocks hK hA hz hit hnp hM5 hM7 (its.length - b) b M s.heap [] ls (by omega) (Nat.le_refl _) (nobox_0 _ _) (up_same hM6) rfl hP hD hS hl
set_option maxHeartbeats 4000000 in
set_option maxRecDepth 100000 in
/-- model: openPage, a page is open -/
theorem c_MD_openPage1 (l : Launch) (G : gG) (A : Nat → Nat) (hA9 : mJn A) (M : MS) (sz : Nat)  (hM7 : M.io = 1) : mV l y_MD_openPage w_MD_openPage ({ frames := 0, cells := 0, slots := 0, locals := 0 }) G (LM A) (mF G A M) sz [.ref (A 0)] 0 0 (fun u => u = (LM A, mF G A M)) := by
  refine pz_met (cc := prog_12_method_14_code) (maxL := 1) (ret := none) (by decide) rfl (Nat.le_of_ble_eq_true rfl) ?_
  intro p e s m below meth c ls hx hb hr hml hts hown hlocks hin hsz hK hP hD hS hA hz hl
  have htb : ∀ w ∈ TB, w.before _ s = true := fun w h => hts w (List.mem_cons_of_mem _ h)
  have hl : lv_has ls 1 [(0, .ref (A 0))] := hl
  refine lv_aload_n hx hb d_MD_openPage_0 rfl (lv_at hl 0 rfl) ?_
  have h_1 : mF G A M (A 0) = .inr (10, [.int M.th, .ref (A 1), .ref (A 2), .ref (A 3), .ref (A 4), .ref (A 5), .int M.ct, .int M.ht, .int M.tp, .int M.gr, .ref (A 6), .ref (A 7), .ref (A 8), .ref (A 9), .ref (A 10), .ref (A 11), .ref (A 12), .int M.pg, .int M.bg, .int M.io, .int M.be, .int M.le, .long M.ln, .long M.dp, .ref (A 13), .long M.sh]) := mf_at hA9 M 0 (by decide)
  refine pz_get (ci := 10) (C := "PageMakerModel") (T := T_MD) (N := 26) hx hb htb in_MD hown hK hP (lm_in (by decide)) h_1 rfl 19 (by decide) (htb _ tw_701) (fun _ h9 => h9) rfl d_MD_openPage_1 ?_
  refine lv_topi (fun x2 ex2 => ?_)
  have ex2 : x2 = 1 := ex2.trans (hM7)
  subst ex2
  refine lv_if_ne (tgt := 103) hx hb d_MD_openPage_4 (by decide) (fun _ => ?_) (fun c0 => absurd c0 (by decide))
  exact pz_vret hx hb hr hlocks hK hP hD hS (Nat.le_of_ble_eq_true rfl) (Nat.le_of_ble_eq_true rfl) rfl d_MD_openPage_103
set_option maxHeartbeats 4000000 in
set_option maxRecDepth 100000 in
/-- model: goOn, its loop -/
theorem lp_goOn (l : Launch) (G : gG) (A : Nat → Nat) (hA9 : mJn A) (M : MS) (sz : Nat) (S : CS) (k : Nat) {p : Program} {e : Env} {s : State} {m : MethodId} {below : List Frame} {meth : Method} {c : Code} (hx : p.tables.exec = Jvm.exec) (hb : c.code = prog_12_method_16_code) (hr : meth.sig.returnType = (some .int)) (hml : c.maxLocals = 1) (hts : ∀ w ∈ w_MD_goOn, w.before ([.ref (A 0)] : List Value).toArray s = true) (hown : s.vm.findClass "PageMakerModel" = some m.cls) (hlocks : meth.locks = false) (hK : va_K (gD G) cls9 (gT G) s) (hA : ∀ q, s.heap.size ≤ q → mA (LM A) (mF G A M) sz q) (hz : gZ G (mA (LM A) (mF G A M) sz) s s.heap) (hJ : J S k) :
    ∀ (mm : Nat) (M1 : MS) (S1 : CS) (k1 t : Nat) (H : Heap) (locs : List Loc) (ls : Array Slot), S1.2.2.1.length + mm = 513 → CR S k S1 k1 t → t ≤ 2000 * S1.2.2.1.length + 600 → MG M1 S1 k1 → (M1.io = 0 → k1 = S1.1.length) → M1.th = M.th → va_P (gD G) cls9 ([] ++ va_pl (LM A) (mF G A M1)) H → va_D (mA (LM A) (mF G A M) sz) ([] ++ va_pl (LM A) (mF G A M1)) → va_S (mA (LM A) (mF G A M) sz) s.heap H locs → lv_has ls 1 [(0, .ref (A 0))] →
      W p l e ({ frames := 4, cells := 0, slots := 0, locals := 94 } : Room) s m ([.ref (A 0)] : List Value).toArray below meth c H locs 0 0 (MQ below (va_Qi (fun r u => ∃ (M1 : MS) (S9 : CS), u = (LM A, mF G A M1) ∧ c_run 4004001 S k = (S9, S9.1.length) ∧ MR M1 S9 ∧ r = nI S9.2.2.1.length ∧ M1.th = M.th) (pz_B (gD G) cls9 (gT G) (mA (LM A) (mF G A M) sz)) (mA (LM A) (mF G A M) sz)) ([.ref (A 0)] : List Value).toArray s 0 0 (mA (LM A) (mF G A M) sz)) (F0 m 4 ls []) := by
  have htb : ∀ w ∈ TB, w.before _ s = true := fun w h => hts w (List.mem_cons_of_mem _ h)
  intro mm
  induction mm with
  | zero =>
    intro M1 S1 k1 t H locs ls hm hcr ht hg hc hth hP hD hS hl
    have h9 := j_pgs (cr_j hcr hJ)
    omega
  | succ mm ih =>
    intro M1 S1 k1 t H locs ls hm hcr ht hg hc hth hP hD hS hl
    have hJ1 := cr_j hcr hJ
    have hp5 := j_pgs hJ1
    obtain ⟨its, F9, pgs, F, P, T⟩ := S1
    have hp5 : pgs.length ≤ 512 := hp5
    have hm : pgs.length + (mm + 1) = 513 := hm
    have ht : t ≤ 2000 * pgs.length + 600 := ht
    obtain ⟨hmb, hg⟩ := hg
    have hmb : MB M1 its F9 pgs := hmb
    have hit : MIt M1.r M1.ct its := hmb.1
    have q5 : M1.pg = nI pgs.length := hmb.2.2.2.2.1
    have hv : itsV its := hJ1.1
    have hn5 : its.length ≤ 512 := hJ1.2.1
    rcases hg with ⟨e1, e2, h7, h6⟩ | ⟨a, j0, e0, hbox, e1, e2, hno, h7, h6, hpr⟩
    · obtain rfl : P = op_0 := e1
      obtain rfl : T = t_0 := e2
      obtain rfl : k1 = its.length := hc h7
      refine lv_aload_n hx hb d_MD_goOn_4 rfl (lv_at hl 0 rfl) ?_
      have h_1 : mF G A M1 (A 0) = .inr (10, [.int M1.th, .ref (A 1), .ref (A 2), .ref (A 3), .ref (A 4), .ref (A 5), .int M1.ct, .int M1.ht, .int M1.tp, .int M1.gr, .ref (A 6), .ref (A 7), .ref (A 8), .ref (A 9), .ref (A 10), .ref (A 11), .ref (A 12), .int M1.pg, .int M1.bg, .int M1.io, .int M1.be, .int M1.le, .long M1.ln, .long M1.dp, .ref (A 13), .long M1.sh]) := mf_at hA9 M1 0 (by decide)
      refine pz_ci (va_runV (As := []) (rest := []) ⟨hx, hb, hml, hown, hts⟩ (c_MD_breaks0 l G A hA9 M1 _ h7) (cwV 0 hts (tb_V tw_793 tw_795 tp_16 tw_8 tw_796) rfl rfl rfl (by decide +kernel) ⟨(Nat.le_of_ble_eq_true rfl), (Nat.le_of_ble_eq_true rfl)⟩) (pz_preV (zz_ok _ _ _) hK hP hD hS hA hz (ci := 10) rfl rfl (lm_in (by decide)) h_1) rfl rfl hl.1 rfl (lv_room (Nat.le_of_ble_eq_true rfl)) d_MD_goOn_5 ⟨(Nat.le_of_ble_eq_true rfl), (Nat.le_of_ble_eq_true rfl)⟩) hP hD hS hA (fun r7 L8 f8 H locs hw hP hD hS => ?_)
      obtain ⟨rfl, hu⟩ := hw
      have eL8 : L8 = LM A := (Prod.mk.inj hu).1
      have ef8 : f8 = mF G A ((M1.si 8 (-1)).si 9 1073741823) := (Prod.mk.inj hu).2
      subst eL8
      subst ef8
      refine lv_if_eq (tgt := 67) hx hb d_MD_goOn_8 (by decide) (fun _ => ?_) (fun c0 => absurd c0 (by decide))
      refine lv_aload_n hx hb d_MD_goOn_67 rfl (lv_at hl 0 rfl) ?_
      have h_2 : mF G A ((M1.si 8 (-1)).si 9 1073741823) (A 0) = .inr (10, [.int M1.th, .ref (A 1), .ref (A 2), .ref (A 3), .ref (A 4), .ref (A 5), .int M1.ct, .int M1.ht, .int M1.tp, .int M1.gr, .ref (A 6), .ref (A 7), .ref (A 8), .ref (A 9), .ref (A 10), .ref (A 11), .ref (A 12), .int M1.pg, .int M1.bg, .int M1.io, .int (-1), .int 1073741823, .long M1.ln, .long M1.dp, .ref (A 13), .long M1.sh]) := mf_at hA9 ((M1.si 8 (-1)).si 9 1073741823) 0 (by decide)
      refine pz_get (ci := 10) (C := "PageMakerModel") (T := T_MD) (N := 26) hx hb htb in_MD hown hK hP (lm_in (by decide)) h_2 rfl 17 (by decide) (htb _ tw_699) (fun _ h9 => h9) rfl d_MD_goOn_68 ?_
      refine lv_topi (fun x3 ex3 => ?_)
      have ex3 : x3 = nI pgs.length := ex3.trans (q5)
      subst ex3
      exact pz_iret hx hb hr rfl hlocks hK hP hD hS (Nat.le_refl _) (Nat.le_refl _) ⟨(M1.si 8 (-1)).si 9 1073741823, (its, F9, pgs, F, op_0, t_0), rfl, cr_done hcr (by omega) (List.getElem?_eq_none (Nat.le_refl _)), ⟨hmb, Or.inl ⟨rfl, rfl, h7, h6⟩⟩, rfl, hth⟩ d_MD_goOn_71
    · obtain rfl : P = sP its F a j0 := e1
      obtain rfl : T = t_list its F a (a + j0 + 1) := e2
      subst e0
      have hk1 : a + j0 + 1 ≤ its.length := hJ1.2.2.2.2.1
      obtain ⟨hF, hlo⟩ := j_open hJ1 (sP_1 its F a j0) (by omega)
      obtain ⟨b0, b1, hbx⟩ := hbox
      refine lv_aload_n hx hb d_MD_goOn_4 rfl (lv_at hl 0 rfl) ?_
      have h_4 : mF G A M1 (A 0) = .inr (10, [.int M1.th, .ref (A 1), .ref (A 2), .ref (A 3), .ref (A 4), .ref (A 5), .int M1.ct, .int M1.ht, .int M1.tp, .int M1.gr, .ref (A 6), .ref (A 7), .ref (A 8), .ref (A 9), .ref (A 10), .ref (A 11), .ref (A 12), .int M1.pg, .int M1.bg, .int M1.io, .int M1.be, .int M1.le, .long M1.ln, .long M1.dp, .ref (A 13), .long M1.sh]) := mf_at hA9 M1 0 (by decide)
      refine pz_ci (va_runV (As := []) (rest := []) ⟨hx, hb, hml, hown, hts⟩ (c_MD_breaks l G A hA9 M1 _ its F a pgs.length hit hv hpr hp5 q5 h6 h7 b0 b1 hbx) (cwV 0 hts (tb_V tw_793 tw_795 tp_16 tw_8 tw_796) rfl rfl rfl (by decide +kernel) ⟨(Nat.le_of_ble_eq_true rfl), (Nat.le_of_ble_eq_true rfl)⟩) (pz_preV (zz_ok _ _ _) hK hP hD hS hA hz (ci := 10) rfl rfl (lm_in (by decide)) h_4) rfl rfl hl.1 rfl (lv_room (Nat.le_of_ble_eq_true rfl)) d_MD_goOn_5 ⟨(Nat.le_of_ble_eq_true rfl), (Nat.le_of_ble_eq_true rfl)⟩) hP hD hS hA (fun r7 L8 f8 H locs hw hP hD hS => ?_)
      obtain ⟨M2, hu, hw⟩ := hw
      have eL8 : L8 = LM A := (Prod.mk.inj hu).1
      have ef8 : f8 = mF G A M2 := (Prod.mk.inj hu).2
      subst eL8
      subst ef8
      rcases hw with ⟨rfl, j, hj1, hb1, he, hi2, hr2⟩ | ⟨rfl, hb1, hi2, hr2⟩
      · have hjj : j0 ≤ j := Nat.le_of_not_lt (fun h9 => absurd (he.symm.trans (hno j h9)) (by decide))
        obtain ⟨b, g1, g2, g3, g4⟩ := sL_end hF hv hn5 ⟨b0, b1, hbx⟩ hj1 he
        have hcr1 := cr_scans (F9 := F9) (pgs := pgs) (F := F) (a := a) (j := j0) hn5 (j - j0) (by omega) (fun i h9 => hb1 i (by omega))
        rw [show j0 + (j - j0) = j by omega] at hcr1
        have hcr2 := cr_end (F9 := F9) (pgs := pgs) hn5 hj1 he g1 (by omega)
        have p5 : M2.pg = nI pgs.length := (congrFun hi2 5).trans q5
        have p8 : M2.be = nI b := (congrFun hi2 8).trans g1
        have p9 : M2.le = (sL its F a j).2.2.2.2.1 := congrFun hi2 9
        refine lv_if_eq (tgt := 67) hx hb d_MD_goOn_8 (by decide) (fun c0 => absurd c0 (by decide)) (fun _ => ?_)
        refine lv_aload_n hx hb d_MD_goOn_11 rfl (lv_at hl 0 rfl) ?_
        have h_5 : mF G A M2 (A 0) = .inr (10, [.int M2.th, .ref (A 1), .ref (A 2), .ref (A 3), .ref (A 4), .ref (A 5), .int M2.ct, .int M2.ht, .int M2.tp, .int M2.gr, .ref (A 6), .ref (A 7), .ref (A 8), .ref (A 9), .ref (A 10), .ref (A 11), .ref (A 12), .int M2.pg, .int M2.bg, .int M2.io, .int M2.be, .int M2.le, .long M2.ln, .long M2.dp, .ref (A 13), .long M2.sh]) := mf_at hA9 M2 0 (by decide)
        refine pz_get (ci := 10) (C := "PageMakerModel") (T := T_MD) (N := 26) hx hb htb in_MD hown hK hP (lm_in (by decide)) h_5 rfl 14 (by decide) (htb _ tw_696) (fun _ h9 => h9) rfl d_MD_goOn_12 ?_
        refine lv_aload_n hx hb d_MD_goOn_15 rfl (lv_at hl 0 rfl) ?_
        refine pz_get (ci := 10) (C := "PageMakerModel") (T := T_MD) (N := 26) hx hb htb in_MD hown hK hP (lm_in (by decide)) h_5 rfl 17 (by decide) (htb _ tw_699) (fun _ h9 => h9) rfl d_MD_goOn_16 ?_
        refine lv_topi (fun x6 ex6 => ?_)
        have ex6 : x6 = nI pgs.length := ex6.trans (p5)
        subst ex6
        refine lv_aload_n hx hb d_MD_goOn_19 rfl (lv_at hl 0 rfl) ?_
        refine pz_get (ci := 10) (C := "PageMakerModel") (T := T_MD) (N := 26) hx hb htb in_MD hown hK hP (lm_in (by decide)) h_5 rfl 20 (by decide) (htb _ tw_702) (fun _ h9 => h9) rfl d_MD_goOn_20 ?_
        refine lv_topi (fun x7 ex7 => ?_)
        have ex7 : x7 = nI b := ex7.trans (p8)
        subst ex7
        have h_8 : mF G A M2 (A 10) = .inl (cI G, 2001, .inl M2.es) := mf_at hA9 M2 10 (by decide)
        refine pz_iast (j := pgs.length) hx hb hK hP hD hS 0 (lm_in (by decide)) h_8 rfl (by omega) (by decide) d_MD_goOn_23 (fun f9 H locs ef9 hP hD hS => ?_)
        have ef9 : f9 = mF G A (M2.sr 10 (upd M2.es pgs.length (nI b))) := ef9.trans (mf_r hA9 (M := M2) 10 (by decide) (by decide))
        subst ef9
        refine lv_aload_n hx hb d_MD_goOn_24 rfl (lv_at hl 0 rfl) ?_
        have h_10 : mF G A (M2.sr 10 (upd M2.es pgs.length (nI b))) (A 0) = .inr (10, [.int M2.th, .ref (A 1), .ref (A 2), .ref (A 3), .ref (A 4), .ref (A 5), .int M2.ct, .int M2.ht, .int M2.tp, .int M2.gr, .ref (A 6), .ref (A 7), .ref (A 8), .ref (A 9), .ref (A 10), .ref (A 11), .ref (A 12), .int M2.pg, .int M2.bg, .int M2.io, .int M2.be, .int M2.le, .long M2.ln, .long M2.dp, .ref (A 13), .long M2.sh]) := mf_at hA9 (M2.sr 10 (upd M2.es pgs.length (nI b))) 0 (by decide)
        refine pz_get (ci := 10) (C := "PageMakerModel") (T := T_MD) (N := 26) hx hb htb in_MD hown hK hP (lm_in (by decide)) h_10 rfl 15 (by decide) (htb _ tw_697) (fun _ h9 => h9) rfl d_MD_goOn_25 ?_
        refine lv_aload_n hx hb d_MD_goOn_28 rfl (lv_at hl 0 rfl) ?_
        refine pz_get (ci := 10) (C := "PageMakerModel") (T := T_MD) (N := 26) hx hb htb in_MD hown hK hP (lm_in (by decide)) h_10 rfl 17 (by decide) (htb _ tw_699) (fun _ h9 => h9) rfl d_MD_goOn_29 ?_
        refine lv_topi (fun x11 ex11 => ?_)
        have ex11 : x11 = nI pgs.length := ex11.trans (p5)
        subst ex11
        refine lv_aload_n hx hb d_MD_goOn_32 rfl (lv_at hl 0 rfl) ?_
        refine pz_get (ci := 10) (C := "PageMakerModel") (T := T_MD) (N := 26) hx hb htb in_MD hown hK hP (lm_in (by decide)) h_10 rfl 21 (by decide) (htb _ tw_703) (fun _ h9 => h9) rfl d_MD_goOn_33 ?_
        refine lv_topi (fun x12 ex12 => ?_)
        have ex12 : x12 = (sL its F a j).2.2.2.2.1 := ex12.trans (p9)
        subst ex12
        have h_13 : mF G A (M2.sr 10 (upd M2.es pgs.length (nI b))) (A 11) = .inl (cI G, 2001, .inl M2.cs) := mf_at hA9 (M2.sr 10 (upd M2.es pgs.length (nI b))) 11 (by decide)
        refine pz_iast (j := pgs.length) hx hb hK hP hD hS 0 (lm_in (by decide)) h_13 rfl (by omega) (by decide) d_MD_goOn_36 (fun f14 H locs ef14 hP hD hS => ?_)
        have ef14 : f14 = mF G A ((M2.sr 10 (upd M2.es pgs.length (nI b))).sr 11 (upd M2.cs pgs.length ((sL its F a j).2.2.2.2.1))) := ef14.trans (mf_r hA9 (M := M2.sr 10 (upd M2.es pgs.length (nI b))) 11 (by decide) (by decide))
        subst ef14
        refine lv_aload_n hx hb d_MD_goOn_37 rfl (lv_at hl 0 rfl) ?_
        refine lv_aload_n hx hb d_MD_goOn_38 rfl (lv_at hl 0 rfl) ?_
        have h_15 : mF G A ((M2.sr 10 (upd M2.es pgs.length (nI b))).sr 11 (upd M2.cs pgs.length ((sL its F a j).2.2.2.2.1))) (A 0) = .inr (10, [.int M2.th, .ref (A 1), .ref (A 2), .ref (A 3), .ref (A 4), .ref (A 5), .int M2.ct, .int M2.ht, .int M2.tp, .int M2.gr, .ref (A 6), .ref (A 7), .ref (A 8), .ref (A 9), .ref (A 10), .ref (A 11), .ref (A 12), .int M2.pg, .int M2.bg, .int M2.io, .int M2.be, .int M2.le, .long M2.ln, .long M2.dp, .ref (A 13), .long M2.sh]) := mf_at hA9 ((M2.sr 10 (upd M2.es pgs.length (nI b))).sr 11 (upd M2.cs pgs.length ((sL its F a j).2.2.2.2.1))) 0 (by decide)
        refine pz_get (ci := 10) (C := "PageMakerModel") (T := T_MD) (N := 26) hx hb htb in_MD hown hK hP (lm_in (by decide)) h_15 rfl 20 (by decide) (htb _ tw_702) (fun _ h9 => h9) rfl d_MD_goOn_39 ?_
        refine lv_topi (fun x16 ex16 => ?_)
        have ex16 : x16 = nI b := ex16.trans (p8)
        subst ex16
        refine pz_put (ci := 10) (v := .int (nI b)) (ty := .int) (C := "PageMakerModel") (T := T_MD) (N := 26) hx hb htb in_MD ty_MD to_MD nm_MD hown hK hP hD hS (lm_in (by decide)) h_15 rfl 18 (by decide) (htb _ tw_700) (fun _ h9 => h9) rfl rfl rfl rfl (Nat.le_of_ble_eq_true rfl) d_MD_goOn_42 (fun f17 H locs ef17 hP hD hS => ?_)
        have ef17 : f17 = va_up (mF G A ((M2.sr 10 (upd M2.es pgs.length (nI b))).sr 11 (upd M2.cs pgs.length ((sL its F a j).2.2.2.2.1)))) (A 0) (.inr (10, [.int M2.th, .ref (A 1), .ref (A 2), .ref (A 3), .ref (A 4), .ref (A 5), .int M2.ct, .int M2.ht, .int M2.tp, .int M2.gr, .ref (A 6), .ref (A 7), .ref (A 8), .ref (A 9), .ref (A 10), .ref (A 11), .ref (A 12), .int M2.pg, .int (nI b), .int M2.io, .int M2.be, .int M2.le, .long M2.ln, .long M2.dp, .ref (A 13), .long M2.sh])) := ef17
        have ef17 : f17 = mF G A (((M2.sr 10 (upd M2.es pgs.length (nI b))).sr 11 (upd M2.cs pgs.length ((sL its F a j).2.2.2.2.1))).si 6 (nI b)) := ef17.trans (mf_o hA9 (M1 := ((M2.sr 10 (upd M2.es pgs.length (nI b))).sr 11 (upd M2.cs pgs.length ((sL its F a j).2.2.2.2.1))).si 6 (nI b)) rfl rfl)
        subst ef17
        refine lv_aload_n hx hb d_MD_goOn_45 rfl (lv_at hl 0 rfl) ?_
        refine lv_dup hx hb d_MD_goOn_46 rfl ?_
        have h_18 : mF G A (((M2.sr 10 (upd M2.es pgs.length (nI b))).sr 11 (upd M2.cs pgs.length ((sL its F a j).2.2.2.2.1))).si 6 (nI b)) (A 0) = .inr (10, [.int M2.th, .ref (A 1), .ref (A 2), .ref (A 3), .ref (A 4), .ref (A 5), .int M2.ct, .int M2.ht, .int M2.tp, .int M2.gr, .ref (A 6), .ref (A 7), .ref (A 8), .ref (A 9), .ref (A 10), .ref (A 11), .ref (A 12), .int M2.pg, .int (nI b), .int M2.io, .int M2.be, .int M2.le, .long M2.ln, .long M2.dp, .ref (A 13), .long M2.sh]) := mf_at hA9 (((M2.sr 10 (upd M2.es pgs.length (nI b))).sr 11 (upd M2.cs pgs.length ((sL its F a j).2.2.2.2.1))).si 6 (nI b)) 0 (by decide)
        refine pz_get (ci := 10) (C := "PageMakerModel") (T := T_MD) (N := 26) hx hb htb in_MD hown hK hP (lm_in (by decide)) h_18 rfl 17 (by decide) (htb _ tw_699) (fun _ h9 => h9) rfl d_MD_goOn_47 ?_
        refine lv_topi (fun x19 ex19 => ?_)
        have ex19 : x19 = nI pgs.length := ex19.trans (p5)
        subst ex19
        refine lv_iconst (v := 1) hx hb d_MD_goOn_50 (by decide) ?_
        refine lv_iadd hx hb d_MD_goOn_51 ?_
        refine lv_topi (fun x20 ex20 => ?_)
        have ex20 : x20 = nI (pgs.length + 1) := ex20.trans (nI_1 _)
        subst ex20
        refine pz_put (ci := 10) (v := .int (nI (pgs.length + 1))) (ty := .int) (C := "PageMakerModel") (T := T_MD) (N := 26) hx hb htb in_MD ty_MD to_MD nm_MD hown hK hP hD hS (lm_in (by decide)) h_18 rfl 17 (by decide) (htb _ tw_699) (fun _ h9 => h9) rfl rfl rfl rfl (Nat.le_of_ble_eq_true rfl) d_MD_goOn_52 (fun f21 H locs ef21 hP hD hS => ?_)
        have ef21 : f21 = va_up (mF G A (((M2.sr 10 (upd M2.es pgs.length (nI b))).sr 11 (upd M2.cs pgs.length ((sL its F a j).2.2.2.2.1))).si 6 (nI b))) (A 0) (.inr (10, [.int M2.th, .ref (A 1), .ref (A 2), .ref (A 3), .ref (A 4), .ref (A 5), .int M2.ct, .int M2.ht, .int M2.tp, .int M2.gr, .ref (A 6), .ref (A 7), .ref (A 8), .ref (A 9), .ref (A 10), .ref (A 11), .ref (A 12), .int (nI (pgs.length + 1)), .int (nI b), .int M2.io, .int M2.be, .int M2.le, .long M2.ln, .long M2.dp, .ref (A 13), .long M2.sh])) := ef21
        have ef21 : f21 = mF G A ((((M2.sr 10 (upd M2.es pgs.length (nI b))).sr 11 (upd M2.cs pgs.length ((sL its F a j).2.2.2.2.1))).si 6 (nI b)).si 5 (nI (pgs.length + 1))) := ef21.trans (mf_o hA9 (M1 := (((M2.sr 10 (upd M2.es pgs.length (nI b))).sr 11 (upd M2.cs pgs.length ((sL its F a j).2.2.2.2.1))).si 6 (nI b)).si 5 (nI (pgs.length + 1))) rfl rfl)
        subst ef21
        refine lv_aload_n hx hb d_MD_goOn_55 rfl (lv_at hl 0 rfl) ?_
        refine lv_iconst (v := 0) hx hb d_MD_goOn_56 (by decide) ?_
        have h_22 : mF G A ((((M2.sr 10 (upd M2.es pgs.length (nI b))).sr 11 (upd M2.cs pgs.length ((sL its F a j).2.2.2.2.1))).si 6 (nI b)).si 5 (nI (pgs.length + 1))) (A 0) = .inr (10, [.int M2.th, .ref (A 1), .ref (A 2), .ref (A 3), .ref (A 4), .ref (A 5), .int M2.ct, .int M2.ht, .int M2.tp, .int M2.gr, .ref (A 6), .ref (A 7), .ref (A 8), .ref (A 9), .ref (A 10), .ref (A 11), .ref (A 12), .int (nI (pgs.length + 1)), .int (nI b), .int M2.io, .int M2.be, .int M2.le, .long M2.ln, .long M2.dp, .ref (A 13), .long M2.sh]) := mf_at hA9 ((((M2.sr 10 (upd M2.es pgs.length (nI b))).sr 11 (upd M2.cs pgs.length ((sL its F a j).2.2.2.2.1))).si 6 (nI b)).si 5 (nI (pgs.length + 1))) 0 (by decide)
        refine pz_put (ci := 10) (v := .int 0) (ty := .boolean) (C := "PageMakerModel") (T := T_MD) (N := 26) hx hb htb in_MD ty_MD to_MD nm_MD hown hK hP hD hS (lm_in (by decide)) h_22 rfl 19 (by decide) (htb _ tw_701) (fun _ h9 => h9) rfl rfl rfl rfl (Nat.le_of_ble_eq_true rfl) d_MD_goOn_57 (fun f23 H locs ef23 hP hD hS => ?_)
        have ef23 : f23 = va_up (mF G A ((((M2.sr 10 (upd M2.es pgs.length (nI b))).sr 11 (upd M2.cs pgs.length ((sL its F a j).2.2.2.2.1))).si 6 (nI b)).si 5 (nI (pgs.length + 1)))) (A 0) (.inr (10, [.int M2.th, .ref (A 1), .ref (A 2), .ref (A 3), .ref (A 4), .ref (A 5), .int M2.ct, .int M2.ht, .int M2.tp, .int M2.gr, .ref (A 6), .ref (A 7), .ref (A 8), .ref (A 9), .ref (A 10), .ref (A 11), .ref (A 12), .int (nI (pgs.length + 1)), .int (nI b), .int 0, .int M2.be, .int M2.le, .long M2.ln, .long M2.dp, .ref (A 13), .long M2.sh])) := ef23
        have ef23 : f23 = mF G A (((((M2.sr 10 (upd M2.es pgs.length (nI b))).sr 11 (upd M2.cs pgs.length ((sL its F a j).2.2.2.2.1))).si 6 (nI b)).si 5 (nI (pgs.length + 1))).si 7 0) := ef23.trans (mf_o hA9 (M1 := ((((M2.sr 10 (upd M2.es pgs.length (nI b))).sr 11 (upd M2.cs pgs.length ((sL its F a j).2.2.2.2.1))).si 6 (nI b)).si 5 (nI (pgs.length + 1))).si 7 0) rfl rfl)
        subst ef23
        refine lv_aload_n hx hb d_MD_goOn_60 rfl (lv_at hl 0 rfl) ?_
        obtain ⟨M3, hM3⟩ : ∃ M3, M3 = ((((M2.sr 10 (upd M2.es pgs.length (nI b))).sr 11 (upd M2.cs pgs.length ((sL its F a j).2.2.2.2.1))).si 6 (nI b)).si 5 (nI (pgs.length + 1))).si 7 0 := ⟨_, rfl⟩
        rw [← hM3] at hP hD
        have hi3 : M3.i = va_up (va_up (va_up (va_up (va_up M1.i 8 (sL its F a j).2.2.2.1) 9 (sL its F a j).2.2.2.2.1) 6 (nI b)) 5 (nI (pgs.length + 1))) 7 0 := by rw [hM3]; show va_up (va_up (va_up M2.i 6 _) 5 _) 7 0 = _; rw [hi2]
        have hr3 : M3.r = va_up (va_up (va_up M1.r 12 (upd (M1.r 12) pgs.length (sL its F a j).2.2.2.2.2.2)) 10 (upd (M1.r 10) pgs.length (nI b))) 11 (upd (M1.r 11) pgs.length (sL its F a j).2.2.2.2.1) := by rw [hM3]; show va_up (va_up M2.r 10 (upd (M2.r 10) _ _)) 11 (upd (M2.r 11) _ _) = _; rw [hr2]; rfl
        have hmb3 : MB M3 its F9 (pgs ++ [(F, g_set (sL its F a j).2 F.1 (t_list its F a b))]) := mb_end hmb hpr hi3 hr3 (sL_1 its F a j) g1.symm rfl rfl
        have hl9 : (pgs ++ [(F, g_set (sL its F a j).2 F.1 (t_list its F a b))]).length = pgs.length + 1 := by rw [List.length_append]; rfl
        have h_24 : mF G A M3 (A 0) = .inr (10, [.int M3.th, .ref (A 1), .ref (A 2), .ref (A 3), .ref (A 4), .ref (A 5), .int M3.ct, .int M3.ht, .int M3.tp, .int M3.gr, .ref (A 6), .ref (A 7), .ref (A 8), .ref (A 9), .ref (A 10), .ref (A 11), .ref (A 12), .int M3.pg, .int M3.bg, .int M3.io, .int M3.be, .int M3.le, .long M3.ln, .long M3.dp, .ref (A 13), .long M3.sh]) := mf_at hA9 M3 0 (by decide)
        refine pz_cv (va_runV (As := []) (rest := []) ⟨hx, hb, hml, hown, hts⟩ (c_MD_openPage l G A hA9 M3 _ its b (pgs.length + 1) hmb3.1 (by omega) (congrFun hi3 5) (congrFun hi3 7) (congrFun hi3 6) (by omega)) (cwV 0 hts (tb_V tw_789 tw_791 tp_15 tw_8 tw_792) rfl rfl rfl (by decide +kernel) ⟨(Nat.le_of_ble_eq_true rfl), (Nat.le_of_ble_eq_true rfl)⟩) (pz_preV (zz_ok _ _ _) hK hP hD hS hA hz (ci := 10) rfl rfl (lm_in (by decide)) h_24) rfl rfl hl.1 rfl (lv_room (Nat.le_of_ble_eq_true rfl)) d_MD_goOn_61 ⟨(Nat.le_of_ble_eq_true rfl), (Nat.le_of_ble_eq_true rfl)⟩) hP hD hS hA (fun L8 f8 H locs hw hP hD hS => ?_)
        obtain ⟨M4, hu, hw⟩ := hw
        have eL8 : L8 = LM A := (Prod.mk.inj hu).1
        have ef8 : f8 = mF G A M4 := (Prod.mk.inj hu).2
        subst eL8
        subst ef8
        obtain ⟨S4, k4, t4, hg4, hcr4, ht4, hs4, hc4, hth4⟩ := open_pure (M1 := M4) (b := b) (F := F9) (congrFun hi3 7) hmb3 hn5 (by omega) (by rw [hl9]; exact hw)
        refine lv_goto (tgt := 4) hx hb d_MD_goOn_64 (by decide) ?_
        exact ih M4 S4 k4 (t + (j - j0) + 1 + t4) H locs ls (by rw [hs4, hl9]; omega) (cr_trans (cr_trans (cr_trans hcr hcr1) hcr2) hcr4) (by rw [hs4, hl9]; omega) hg4 hc4 (hth4.trans ((congrFun hi3 0).trans hth)) hP hD hS hl
      · have hcr1 := cr_scans (F9 := F9) (pgs := pgs) (F := F) (a := a) (j := j0) hn5 (its.length - a - 1 - j0) (by omega) (fun i h9 => hb1 i (by omega))
        rw [show j0 + (its.length - a - 1 - j0) = its.length - a - 1 by omega] at hcr1
        have hcr2 := cr_trans hcr hcr1
        have p5 : M2.pg = nI pgs.length := (congrFun hi2 5).trans q5
        refine lv_if_eq (tgt := 67) hx hb d_MD_goOn_8 (by decide) (fun _ => ?_) (fun c0 => absurd c0 (by decide))
        refine lv_aload_n hx hb d_MD_goOn_67 rfl (lv_at hl 0 rfl) ?_
        have h_25 : mF G A M2 (A 0) = .inr (10, [.int M2.th, .ref (A 1), .ref (A 2), .ref (A 3), .ref (A 4), .ref (A 5), .int M2.ct, .int M2.ht, .int M2.tp, .int M2.gr, .ref (A 6), .ref (A 7), .ref (A 8), .ref (A 9), .ref (A 10), .ref (A 11), .ref (A 12), .int M2.pg, .int M2.bg, .int M2.io, .int M2.be, .int M2.le, .long M2.ln, .long M2.dp, .ref (A 13), .long M2.sh]) := mf_at hA9 M2 0 (by decide)
        refine pz_get (ci := 10) (C := "PageMakerModel") (T := T_MD) (N := 26) hx hb htb in_MD hown hK hP (lm_in (by decide)) h_25 rfl 17 (by decide) (htb _ tw_699) (fun _ h9 => h9) rfl d_MD_goOn_68 ?_
        refine lv_topi (fun x26 ex26 => ?_)
        have ex26 : x26 = nI pgs.length := ex26.trans (p5)
        subst ex26
        exact pz_iret hx hb hr rfl hlocks hK hP hD hS (Nat.le_refl _) (Nat.le_refl _) ⟨M2, _, rfl, (cr_done hcr2 (by omega) (List.getElem?_eq_none (by show its.length ≤ _; omega))).trans (Prod.ext rfl (show a + (its.length - a - 1) + 1 = its.length by omega)), ⟨mb_keep hmb hi2 hr2, Or.inr ⟨a, its.length - a - 1, (show its.length = _ by omega), ⟨⟨b0, b1, hbx⟩, rfl, rfl, fun i h9 => hb1 i (by omega), hlo, hF⟩, (congrFun hi2 7).trans h7, (congrFun hi2 6).trans h6, by show PR M2.r _ _ _; rw [hr2]; exact hpr, congrFun hi2 8, congrFun hi2 9⟩⟩, rfl, (congrFun hi2 0).trans hth⟩ d_MD_goOn_71
set_option maxHeartbeats 4000000 in
set_option maxRecDepth 100000 in
/-- model: goOn -/
theorem c_MD_goOn (l : Launch) (G : gG) (A : Nat → Nat) (hA9 : mJn A) (M : MS) (sz : Nat) (S : CS) (k : Nat) (hJ : J S k) (hg : MG M S k) : mI l y_MD_goOn w_MD_goOn ({ frames := 4, cells := 0, slots := 0, locals := 94 }) G (LM A) (mF G A M) sz [.ref (A 0)] 0 0 (fun r u => ∃ (M1 : MS) (S9 : CS), u = (LM A, mF G A M1) ∧ c_run 4004001 S k = (S9, S9.1.length) ∧ MR M1 S9 ∧ r = nI S9.2.2.1.length ∧ M1.th = M.th) := by
  refine pz_met (cc := prog_12_method_16_code) (maxL := 1) (ret := (some .int)) (by decide) rfl (Nat.le_of_ble_eq_true rfl) ?_
  intro p e s m below meth c ls hx hb hr hml hts hown hlocks hin hsz hK hP hD hS hA hz hl
  have htb : ∀ w ∈ TB, w.before _ s = true := fun w h => hts w (List.mem_cons_of_mem _ h)
  have hl : lv_has ls 1 [(0, .ref (A 0))] := hl
  have hp5 := j_pgs hJ
  have hn5 : S.1.length ≤ 512 := hJ.2.1
  rcases hg with ⟨hmb, ⟨e1, e2, h7, h6⟩ | ho⟩
  · refine lv_aload_n hx hb d_MD_goOn_0 rfl (lv_at hl 0 rfl) ?_
    have h_1 : mF G A M (A 0) = .inr (10, [.int M.th, .ref (A 1), .ref (A 2), .ref (A 3), .ref (A 4), .ref (A 5), .int M.ct, .int M.ht, .int M.tp, .int M.gr, .ref (A 6), .ref (A 7), .ref (A 8), .ref (A 9), .ref (A 10), .ref (A 11), .ref (A 12), .int M.pg, .int M.bg, .int M.io, .int M.be, .int M.le, .long M.ln, .long M.dp, .ref (A 13), .long M.sh]) := mf_at hA9 M 0 (by decide)
    refine pz_cv (va_runV (As := []) (rest := []) ⟨hx, hb, hml, hown, hts⟩ (c_MD_openPage l G A hA9 M _ S.1 k S.2.2.1.length hmb.1 (by omega) hmb.2.2.2.2.1 h7 h6 hJ.2.2.2.2.1) (cwV 0 hts (tb_V tw_789 tw_791 tp_15 tw_8 tw_792) rfl rfl rfl (by decide +kernel) ⟨(Nat.le_of_ble_eq_true rfl), (Nat.le_of_ble_eq_true rfl)⟩) (pz_preV (zz_ok _ _ _) hK hP hD hS hA hz (ci := 10) rfl rfl (lm_in (by decide)) h_1) rfl rfl hl.1 rfl (lv_room (Nat.le_of_ble_eq_true rfl)) d_MD_goOn_1 ⟨(Nat.le_of_ble_eq_true rfl), (Nat.le_of_ble_eq_true rfl)⟩) hP hD hS hA (fun L8 f8 H locs hw hP hD hS => ?_)
    obtain ⟨M4, hu, hw⟩ := hw
    have eL8 : L8 = LM A := (Prod.mk.inj hu).1
    have ef8 : f8 = mF G A M4 := (Prod.mk.inj hu).2
    subst eL8
    subst ef8
    obtain ⟨its, F9, pgs, F, P, T⟩ := S
    obtain rfl : P = op_0 := e1
    obtain rfl : T = t_0 := e2
    obtain ⟨S4, k4, t4, hg4, hcr4, ht4, hs4, hc4, hth4⟩ := open_pure (F := F) h7 hmb hn5 hJ.2.2.2.2.1 hw
    exact lp_goOn l G A hA9 M sz _ k hx hb hr hml hts hown hlocks hK hA hz hJ (513 - pgs.length) M4 S4 k4 t4 H locs ls (by have h9 : pgs.length ≤ 512 := hp5; have h8 : S4.2.2.1.length = pgs.length := congrArg List.length hs4; omega) hcr4 (by omega) hg4 hc4 hth4 hP hD hS hl
  · have h7 : M.io = 1 := by obtain ⟨a, j, -, -, -, -, -, h7, -⟩ := ho; exact h7
    refine lv_aload_n hx hb d_MD_goOn_0 rfl (lv_at hl 0 rfl) ?_
    have h_2 : mF G A M (A 0) = .inr (10, [.int M.th, .ref (A 1), .ref (A 2), .ref (A 3), .ref (A 4), .ref (A 5), .int M.ct, .int M.ht, .int M.tp, .int M.gr, .ref (A 6), .ref (A 7), .ref (A 8), .ref (A 9), .ref (A 10), .ref (A 11), .ref (A 12), .int M.pg, .int M.bg, .int M.io, .int M.be, .int M.le, .long M.ln, .long M.dp, .ref (A 13), .long M.sh]) := mf_at hA9 M 0 (by decide)
    refine pz_cv (va_runV (As := []) (rest := []) ⟨hx, hb, hml, hown, hts⟩ (c_MD_openPage1 l G A hA9 M _ h7) (cwV 0 hts (tb_V tw_789 tw_791 tp_15 tw_8 tw_792) rfl rfl rfl (by decide +kernel) ⟨(Nat.le_of_ble_eq_true rfl), (Nat.le_of_ble_eq_true rfl)⟩) (pz_preV (zz_ok _ _ _) hK hP hD hS hA hz (ci := 10) rfl rfl (lm_in (by decide)) h_2) rfl rfl hl.1 rfl (lv_room (Nat.le_of_ble_eq_true rfl)) d_MD_goOn_1 ⟨(Nat.le_of_ble_eq_true rfl), (Nat.le_of_ble_eq_true rfl)⟩) hP hD hS hA (fun L8 f8 H locs hu hP hD hS => ?_)
    have eL8 : L8 = LM A := (Prod.mk.inj hu).1
    have ef8 : f8 = mF G A M := (Prod.mk.inj hu).2
    subst eL8
    subst ef8
    exact lp_goOn l G A hA9 M sz S k hx hb hr hml hts hown hlocks hK hA hz hJ (513 - S.2.2.1.length) M S k 0 H locs ls (by omega) (cr_refl _ _) (by omega) ⟨hmb, Or.inr ho⟩ (fun h9 => absurd (h9.symm.trans h7) (by decide)) rfl hP hD hS hl
set_option maxHeartbeats 4000000 in
set_option maxRecDepth 100000 in
/-- model: append -/
theorem c_MD_append (l : Launch) (G : gG) (A : Nat → Nat) (hA9 : mJn A) (M : MS) (sz : Nat) (S : CS) (it : It) (v0 v1 v2 v3 v4 : Int32) (hJ : J S S.1.length) (hR : MR M S) (hl5 : S.1.length < 512) (hv : itV it) (hok : itOK it) (hen : enM it v0 v1 v2 v3 v4) : mI l y_MD_append w_MD_append ({ frames := 5, cells := 0, slots := 0, locals := 114 }) G (LM A) (mF G A M) sz [.ref (A 0), .int v0, .int v1, .int v2, .int v3, .int v4] 0 0 (fun r u => ∃ (M1 : MS) (S9 : CS), u = (LM A, mF G A M1) ∧ c_run 4004001 (c_in S it) S.1.length = (S9, S9.1.length) ∧ MR M1 S9 ∧ r = nI S9.2.2.1.length ∧ M1.th = M.th) := by
  refine pz_met (cc := prog_12_method_17_code) (maxL := 6) (ret := (some .int)) (by decide) rfl (Nat.le_of_ble_eq_true rfl) ?_
  intro p e s m below meth c ls hx hb hr hml hts hown hlocks hin hsz hK hP hD hS hA hz hl
  have htb : ∀ w ∈ TB, w.before _ s = true := fun w h => hts w (List.mem_cons_of_mem _ h)
  have hl : lv_has ls 6 [(0, .ref (A 0)), (1, .int v0), (2, .int v1), (3, .int v2), (4, .int v3), (5, .int v4)] := hl
  have q1 : M.ct = nI S.1.length := hR.1.1.1
  refine lv_aload_n hx hb d_MD_append_0 rfl (lv_at hl 0 rfl) ?_
  have h_1 : mF G A M (A 0) = .inr (10, [.int M.th, .ref (A 1), .ref (A 2), .ref (A 3), .ref (A 4), .ref (A 5), .int M.ct, .int M.ht, .int M.tp, .int M.gr, .ref (A 6), .ref (A 7), .ref (A 8), .ref (A 9), .ref (A 10), .ref (A 11), .ref (A 12), .int M.pg, .int M.bg, .int M.io, .int M.be, .int M.le, .long M.ln, .long M.dp, .ref (A 13), .long M.sh]) := mf_at hA9 M 0 (by decide)
  refine pz_get (ci := 10) (C := "PageMakerModel") (T := T_MD) (N := 26) hx hb htb in_MD hown hK hP (lm_in (by decide)) h_1 rfl 1 (by decide) (htb _ tw_683) (fun _ h9 => h9) rfl d_MD_append_1 ?_
  refine lv_aload_n hx hb d_MD_append_4 rfl (lv_at hl 0 rfl) ?_
  refine pz_get (ci := 10) (C := "PageMakerModel") (T := T_MD) (N := 26) hx hb htb in_MD hown hK hP (lm_in (by decide)) h_1 rfl 6 (by decide) (htb _ tw_688) (fun _ h9 => h9) rfl d_MD_append_5 ?_
  refine lv_topi (fun x2 ex2 => ?_)
  have ex2 : x2 = nI S.1.length := ex2.trans (q1)
  subst ex2
  refine lv_iload_n hx hb d_MD_append_8 rfl (lv_at hl 1 rfl) ?_
  have h_3 : mF G A M (A 1) = .inl (cI G, 2000, .inl M.kd) := mf_at hA9 M 1 (by decide)
  refine pz_iast (j := S.1.length) hx hb hK hP hD hS 0 (lm_in (by decide)) h_3 rfl (by omega) (by decide) d_MD_append_9 (fun f4 H locs ef4 hP hD hS => ?_)
  have ef4 : f4 = mF G A (M.sr 1 (upd M.kd S.1.length v0)) := ef4.trans (mf_r hA9 (M := M) 1 (by decide) (by decide))
  subst ef4
  refine lv_aload_n hx hb d_MD_append_10 rfl (lv_at hl 0 rfl) ?_
  have h_5 : mF G A (M.sr 1 (upd M.kd S.1.length v0)) (A 0) = .inr (10, [.int M.th, .ref (A 1), .ref (A 2), .ref (A 3), .ref (A 4), .ref (A 5), .int M.ct, .int M.ht, .int M.tp, .int M.gr, .ref (A 6), .ref (A 7), .ref (A 8), .ref (A 9), .ref (A 10), .ref (A 11), .ref (A 12), .int M.pg, .int M.bg, .int M.io, .int M.be, .int M.le, .long M.ln, .long M.dp, .ref (A 13), .long M.sh]) := mf_at hA9 (M.sr 1 (upd M.kd S.1.length v0)) 0 (by decide)
  refine pz_get (ci := 10) (C := "PageMakerModel") (T := T_MD) (N := 26) hx hb htb in_MD hown hK hP (lm_in (by decide)) h_5 rfl 2 (by decide) (htb _ tw_684) (fun _ h9 => h9) rfl d_MD_append_11 ?_
  refine lv_aload_n hx hb d_MD_append_14 rfl (lv_at hl 0 rfl) ?_
  refine pz_get (ci := 10) (C := "PageMakerModel") (T := T_MD) (N := 26) hx hb htb in_MD hown hK hP (lm_in (by decide)) h_5 rfl 6 (by decide) (htb _ tw_688) (fun _ h9 => h9) rfl d_MD_append_15 ?_
  refine lv_topi (fun x6 ex6 => ?_)
  have ex6 : x6 = nI S.1.length := ex6.trans (q1)
  subst ex6
  refine lv_iload_n hx hb d_MD_append_18 rfl (lv_at hl 2 rfl) ?_
  have h_7 : mF G A (M.sr 1 (upd M.kd S.1.length v0)) (A 2) = .inl (cI G, 2000, .inl M.on) := mf_at hA9 (M.sr 1 (upd M.kd S.1.length v0)) 2 (by decide)
  refine pz_iast (j := S.1.length) hx hb hK hP hD hS 0 (lm_in (by decide)) h_7 rfl (by omega) (by decide) d_MD_append_19 (fun f8 H locs ef8 hP hD hS => ?_)
  have ef8 : f8 = mF G A ((M.sr 1 (upd M.kd S.1.length v0)).sr 2 (upd M.on S.1.length v1)) := ef8.trans (mf_r hA9 (M := M.sr 1 (upd M.kd S.1.length v0)) 2 (by decide) (by decide))
  subst ef8
  refine lv_aload_n hx hb d_MD_append_20 rfl (lv_at hl 0 rfl) ?_
  have h_9 : mF G A ((M.sr 1 (upd M.kd S.1.length v0)).sr 2 (upd M.on S.1.length v1)) (A 0) = .inr (10, [.int M.th, .ref (A 1), .ref (A 2), .ref (A 3), .ref (A 4), .ref (A 5), .int M.ct, .int M.ht, .int M.tp, .int M.gr, .ref (A 6), .ref (A 7), .ref (A 8), .ref (A 9), .ref (A 10), .ref (A 11), .ref (A 12), .int M.pg, .int M.bg, .int M.io, .int M.be, .int M.le, .long M.ln, .long M.dp, .ref (A 13), .long M.sh]) := mf_at hA9 ((M.sr 1 (upd M.kd S.1.length v0)).sr 2 (upd M.on S.1.length v1)) 0 (by decide)
  refine pz_get (ci := 10) (C := "PageMakerModel") (T := T_MD) (N := 26) hx hb htb in_MD hown hK hP (lm_in (by decide)) h_9 rfl 3 (by decide) (htb _ tw_685) (fun _ h9 => h9) rfl d_MD_append_21 ?_
  refine lv_aload_n hx hb d_MD_append_24 rfl (lv_at hl 0 rfl) ?_
  refine pz_get (ci := 10) (C := "PageMakerModel") (T := T_MD) (N := 26) hx hb htb in_MD hown hK hP (lm_in (by decide)) h_9 rfl 6 (by decide) (htb _ tw_688) (fun _ h9 => h9) rfl d_MD_append_25 ?_
  refine lv_topi (fun x10 ex10 => ?_)
  have ex10 : x10 = nI S.1.length := ex10.trans (q1)
  subst ex10
  refine lv_iload_n hx hb d_MD_append_28 rfl (lv_at hl 3 rfl) ?_
  have h_11 : mF G A ((M.sr 1 (upd M.kd S.1.length v0)).sr 2 (upd M.on S.1.length v1)) (A 3) = .inl (cI G, 2000, .inl M.tw) := mf_at hA9 ((M.sr 1 (upd M.kd S.1.length v0)).sr 2 (upd M.on S.1.length v1)) 3 (by decide)
  refine pz_iast (j := S.1.length) hx hb hK hP hD hS 0 (lm_in (by decide)) h_11 rfl (by omega) (by decide) d_MD_append_29 (fun f12 H locs ef12 hP hD hS => ?_)
  have ef12 : f12 = mF G A (((M.sr 1 (upd M.kd S.1.length v0)).sr 2 (upd M.on S.1.length v1)).sr 3 (upd M.tw S.1.length v2)) := ef12.trans (mf_r hA9 (M := (M.sr 1 (upd M.kd S.1.length v0)).sr 2 (upd M.on S.1.length v1)) 3 (by decide) (by decide))
  subst ef12
  refine lv_aload_n hx hb d_MD_append_30 rfl (lv_at hl 0 rfl) ?_
  have h_13 : mF G A (((M.sr 1 (upd M.kd S.1.length v0)).sr 2 (upd M.on S.1.length v1)).sr 3 (upd M.tw S.1.length v2)) (A 0) = .inr (10, [.int M.th, .ref (A 1), .ref (A 2), .ref (A 3), .ref (A 4), .ref (A 5), .int M.ct, .int M.ht, .int M.tp, .int M.gr, .ref (A 6), .ref (A 7), .ref (A 8), .ref (A 9), .ref (A 10), .ref (A 11), .ref (A 12), .int M.pg, .int M.bg, .int M.io, .int M.be, .int M.le, .long M.ln, .long M.dp, .ref (A 13), .long M.sh]) := mf_at hA9 (((M.sr 1 (upd M.kd S.1.length v0)).sr 2 (upd M.on S.1.length v1)).sr 3 (upd M.tw S.1.length v2)) 0 (by decide)
  refine pz_get (ci := 10) (C := "PageMakerModel") (T := T_MD) (N := 26) hx hb htb in_MD hown hK hP (lm_in (by decide)) h_13 rfl 4 (by decide) (htb _ tw_686) (fun _ h9 => h9) rfl d_MD_append_31 ?_
  refine lv_aload_n hx hb d_MD_append_34 rfl (lv_at hl 0 rfl) ?_
  refine pz_get (ci := 10) (C := "PageMakerModel") (T := T_MD) (N := 26) hx hb htb in_MD hown hK hP (lm_in (by decide)) h_13 rfl 6 (by decide) (htb _ tw_688) (fun _ h9 => h9) rfl d_MD_append_35 ?_
  refine lv_topi (fun x14 ex14 => ?_)
  have ex14 : x14 = nI S.1.length := ex14.trans (q1)
  subst ex14
  refine lv_iload hx hb d_MD_append_38 (lv_at hl 4 rfl) ?_
  have h_15 : mF G A (((M.sr 1 (upd M.kd S.1.length v0)).sr 2 (upd M.on S.1.length v1)).sr 3 (upd M.tw S.1.length v2)) (A 4) = .inl (cI G, 2000, .inl M.te) := mf_at hA9 (((M.sr 1 (upd M.kd S.1.length v0)).sr 2 (upd M.on S.1.length v1)).sr 3 (upd M.tw S.1.length v2)) 4 (by decide)
  refine pz_iast (j := S.1.length) hx hb hK hP hD hS 0 (lm_in (by decide)) h_15 rfl (by omega) (by decide) d_MD_append_40 (fun f16 H locs ef16 hP hD hS => ?_)
  have ef16 : f16 = mF G A ((((M.sr 1 (upd M.kd S.1.length v0)).sr 2 (upd M.on S.1.length v1)).sr 3 (upd M.tw S.1.length v2)).sr 4 (upd M.te S.1.length v3)) := ef16.trans (mf_r hA9 (M := ((M.sr 1 (upd M.kd S.1.length v0)).sr 2 (upd M.on S.1.length v1)).sr 3 (upd M.tw S.1.length v2)) 4 (by decide) (by decide))
  subst ef16
  refine lv_aload_n hx hb d_MD_append_41 rfl (lv_at hl 0 rfl) ?_
  have h_17 : mF G A ((((M.sr 1 (upd M.kd S.1.length v0)).sr 2 (upd M.on S.1.length v1)).sr 3 (upd M.tw S.1.length v2)).sr 4 (upd M.te S.1.length v3)) (A 0) = .inr (10, [.int M.th, .ref (A 1), .ref (A 2), .ref (A 3), .ref (A 4), .ref (A 5), .int M.ct, .int M.ht, .int M.tp, .int M.gr, .ref (A 6), .ref (A 7), .ref (A 8), .ref (A 9), .ref (A 10), .ref (A 11), .ref (A 12), .int M.pg, .int M.bg, .int M.io, .int M.be, .int M.le, .long M.ln, .long M.dp, .ref (A 13), .long M.sh]) := mf_at hA9 ((((M.sr 1 (upd M.kd S.1.length v0)).sr 2 (upd M.on S.1.length v1)).sr 3 (upd M.tw S.1.length v2)).sr 4 (upd M.te S.1.length v3)) 0 (by decide)
  refine pz_get (ci := 10) (C := "PageMakerModel") (T := T_MD) (N := 26) hx hb htb in_MD hown hK hP (lm_in (by decide)) h_17 rfl 5 (by decide) (htb _ tw_687) (fun _ h9 => h9) rfl d_MD_append_42 ?_
  refine lv_aload_n hx hb d_MD_append_45 rfl (lv_at hl 0 rfl) ?_
  refine pz_get (ci := 10) (C := "PageMakerModel") (T := T_MD) (N := 26) hx hb htb in_MD hown hK hP (lm_in (by decide)) h_17 rfl 6 (by decide) (htb _ tw_688) (fun _ h9 => h9) rfl d_MD_append_46 ?_
  refine lv_topi (fun x18 ex18 => ?_)
  have ex18 : x18 = nI S.1.length := ex18.trans (q1)
  subst ex18
  refine lv_iload hx hb d_MD_append_49 (lv_at hl 5 rfl) ?_
  have h_19 : mF G A ((((M.sr 1 (upd M.kd S.1.length v0)).sr 2 (upd M.on S.1.length v1)).sr 3 (upd M.tw S.1.length v2)).sr 4 (upd M.te S.1.length v3)) (A 5) = .inl (cI G, 2000, .inl M.od) := mf_at hA9 ((((M.sr 1 (upd M.kd S.1.length v0)).sr 2 (upd M.on S.1.length v1)).sr 3 (upd M.tw S.1.length v2)).sr 4 (upd M.te S.1.length v3)) 5 (by decide)
  refine pz_iast (j := S.1.length) hx hb hK hP hD hS 0 (lm_in (by decide)) h_19 rfl (by omega) (by decide) d_MD_append_51 (fun f20 H locs ef20 hP hD hS => ?_)
  have ef20 : f20 = mF G A (((((M.sr 1 (upd M.kd S.1.length v0)).sr 2 (upd M.on S.1.length v1)).sr 3 (upd M.tw S.1.length v2)).sr 4 (upd M.te S.1.length v3)).sr 5 (upd M.od S.1.length v4)) := ef20.trans (mf_r hA9 (M := (((M.sr 1 (upd M.kd S.1.length v0)).sr 2 (upd M.on S.1.length v1)).sr 3 (upd M.tw S.1.length v2)).sr 4 (upd M.te S.1.length v3)) 5 (by decide) (by decide))
  subst ef20
  refine lv_aload_n hx hb d_MD_append_52 rfl (lv_at hl 0 rfl) ?_
  refine lv_dup hx hb d_MD_append_53 rfl ?_
  have h_21 : mF G A (((((M.sr 1 (upd M.kd S.1.length v0)).sr 2 (upd M.on S.1.length v1)).sr 3 (upd M.tw S.1.length v2)).sr 4 (upd M.te S.1.length v3)).sr 5 (upd M.od S.1.length v4)) (A 0) = .inr (10, [.int M.th, .ref (A 1), .ref (A 2), .ref (A 3), .ref (A 4), .ref (A 5), .int M.ct, .int M.ht, .int M.tp, .int M.gr, .ref (A 6), .ref (A 7), .ref (A 8), .ref (A 9), .ref (A 10), .ref (A 11), .ref (A 12), .int M.pg, .int M.bg, .int M.io, .int M.be, .int M.le, .long M.ln, .long M.dp, .ref (A 13), .long M.sh]) := mf_at hA9 (((((M.sr 1 (upd M.kd S.1.length v0)).sr 2 (upd M.on S.1.length v1)).sr 3 (upd M.tw S.1.length v2)).sr 4 (upd M.te S.1.length v3)).sr 5 (upd M.od S.1.length v4)) 0 (by decide)
  refine pz_get (ci := 10) (C := "PageMakerModel") (T := T_MD) (N := 26) hx hb htb in_MD hown hK hP (lm_in (by decide)) h_21 rfl 6 (by decide) (htb _ tw_688) (fun _ h9 => h9) rfl d_MD_append_54 ?_
  refine lv_topi (fun x22 ex22 => ?_)
  have ex22 : x22 = nI S.1.length := ex22.trans (q1)
  subst ex22
  refine lv_iconst (v := 1) hx hb d_MD_append_57 (by decide) ?_
  refine lv_iadd hx hb d_MD_append_58 ?_
  refine lv_topi (fun x23 ex23 => ?_)
  have ex23 : x23 = nI (S.1.length + 1) := ex23.trans (nI_1 _)
  subst ex23
  refine pz_put (ci := 10) (v := .int (nI (S.1.length + 1))) (ty := .int) (C := "PageMakerModel") (T := T_MD) (N := 26) hx hb htb in_MD ty_MD to_MD nm_MD hown hK hP hD hS (lm_in (by decide)) h_21 rfl 6 (by decide) (htb _ tw_688) (fun _ h9 => h9) rfl rfl rfl rfl (Nat.le_of_ble_eq_true rfl) d_MD_append_59 (fun f24 H locs ef24 hP hD hS => ?_)
  have ef24 : f24 = va_up (mF G A (((((M.sr 1 (upd M.kd S.1.length v0)).sr 2 (upd M.on S.1.length v1)).sr 3 (upd M.tw S.1.length v2)).sr 4 (upd M.te S.1.length v3)).sr 5 (upd M.od S.1.length v4))) (A 0) (.inr (10, [.int M.th, .ref (A 1), .ref (A 2), .ref (A 3), .ref (A 4), .ref (A 5), .int (nI (S.1.length + 1)), .int M.ht, .int M.tp, .int M.gr, .ref (A 6), .ref (A 7), .ref (A 8), .ref (A 9), .ref (A 10), .ref (A 11), .ref (A 12), .int M.pg, .int M.bg, .int M.io, .int M.be, .int M.le, .long M.ln, .long M.dp, .ref (A 13), .long M.sh])) := ef24
  have ef24 : f24 = mF G A ((((((M.sr 1 (upd M.kd S.1.length v0)).sr 2 (upd M.on S.1.length v1)).sr 3 (upd M.tw S.1.length v2)).sr 4 (upd M.te S.1.length v3)).sr 5 (upd M.od S.1.length v4)).si 1 (nI (S.1.length + 1))) := ef24.trans (mf_o hA9 (M1 := (((((M.sr 1 (upd M.kd S.1.length v0)).sr 2 (upd M.on S.1.length v1)).sr 3 (upd M.tw S.1.length v2)).sr 4 (upd M.te S.1.length v3)).sr 5 (upd M.od S.1.length v4)).si 1 (nI (S.1.length + 1))) rfl rfl)
  subst ef24
  refine lv_aload_n hx hb d_MD_append_62 rfl (lv_at hl 0 rfl) ?_
  have hg := mg_in (x := it) (M1 := (((((M.sr 1 (upd M.kd S.1.length v0)).sr 2 (upd M.on S.1.length v1)).sr 3 (upd M.tw S.1.length v2)).sr 4 (upd M.te S.1.length v3)).sr 5 (upd M.od S.1.length v4)).si 1 (nI (S.1.length + 1))) hJ hR hl5 rfl rfl hok hen
  have h_25 : mF G A ((((((M.sr 1 (upd M.kd S.1.length v0)).sr 2 (upd M.on S.1.length v1)).sr 3 (upd M.tw S.1.length v2)).sr 4 (upd M.te S.1.length v3)).sr 5 (upd M.od S.1.length v4)).si 1 (nI (S.1.length + 1))) (A 0) = .inr (10, [.int M.th, .ref (A 1), .ref (A 2), .ref (A 3), .ref (A 4), .ref (A 5), .int (nI (S.1.length + 1)), .int M.ht, .int M.tp, .int M.gr, .ref (A 6), .ref (A 7), .ref (A 8), .ref (A 9), .ref (A 10), .ref (A 11), .ref (A 12), .int M.pg, .int M.bg, .int M.io, .int M.be, .int M.le, .long M.ln, .long M.dp, .ref (A 13), .long M.sh]) := mf_at hA9 ((((((M.sr 1 (upd M.kd S.1.length v0)).sr 2 (upd M.on S.1.length v1)).sr 3 (upd M.tw S.1.length v2)).sr 4 (upd M.te S.1.length v3)).sr 5 (upd M.od S.1.length v4)).si 1 (nI (S.1.length + 1))) 0 (by decide)
  refine pz_ci (va_runV (As := []) (rest := []) ⟨hx, hb, hml, hown, hts⟩ (c_MD_goOn l G A hA9 ((((((M.sr 1 (upd M.kd S.1.length v0)).sr 2 (upd M.on S.1.length v1)).sr 3 (upd M.tw S.1.length v2)).sr 4 (upd M.te S.1.length v3)).sr 5 (upd M.od S.1.length v4)).si 1 (nI (S.1.length + 1))) _ (c_in S it) S.1.length (j_in hJ hl5 hv) hg) (cwV 0 hts (tb_V tw_785 tw_787 tp_14 tw_8 tw_788) rfl rfl rfl (by decide +kernel) ⟨(Nat.le_of_ble_eq_true rfl), (Nat.le_of_ble_eq_true rfl)⟩) (pz_preV (zz_ok _ _ _) hK hP hD hS hA hz (ci := 10) rfl rfl (lm_in (by decide)) h_25) rfl rfl hl.1 rfl (lv_room (Nat.le_of_ble_eq_true rfl)) d_MD_append_63 ⟨(Nat.le_of_ble_eq_true rfl), (Nat.le_of_ble_eq_true rfl)⟩) hP hD hS hA (fun r7 L8 f8 H locs hw hP hD hS => ?_)
  obtain ⟨M1, S9, hu, h1, h2, h3, h4⟩ := hw
  exact pz_iret hx hb hr rfl hlocks hK hP hD hS (Nat.le_of_ble_eq_true rfl) (Nat.le_of_ble_eq_true rfl) ⟨M1, S9, hu, h1, h2, h3, h4⟩ d_MD_append_66
set_option maxHeartbeats 4000000 in
set_option maxRecDepth 100000 in
/-- model: box, right -/
theorem c_MD_box (l : Launch) (G : gG) (A : Nat → Nat) (hA9 : mJn A) (M : MS) (sz : Nat) (S : CS) (tag h d : Int32) (hJ : J S S.1.length) (hR : MR M S) (hl5 : S.1.length < 512) (hv0 : 0 ≤ tag) (hv1 : k_isS h) (hv2 : k_isS d) : mI l y_MD_box w_MD_box ({ frames := 6, cells := 0, slots := 0, locals := 139 }) G (LM A) (mF G A M) sz [.ref (A 0), .int tag, .int h, .int d] 0 0 (fun r u => ∃ (M1 : MS) (S9 : CS), u = (LM A, mF G A M1) ∧ c_run 4004001 (c_in S (.inl (h, d))) S.1.length = (S9, S9.1.length) ∧ MR M1 S9 ∧ r = nI S9.2.2.1.length ∧ M1.th = 0) := by
  refine pz_met (cc := prog_12_method_18_code) (maxL := 4) (ret := (some .int)) (by decide) rfl (Nat.le_of_ble_eq_true rfl) ?_
  intro p e s m below meth c ls hx hb hr hml hts hown hlocks hin hsz hK hP hD hS hA hz hl
  have htb : ∀ w ∈ TB, w.before _ s = true := fun w h => hts w (List.mem_cons_of_mem _ h)
  have hl : lv_has ls 4 [(0, .ref (A 0)), (1, .int tag), (2, .int h), (3, .int d)] := hl
  have q1 : M.ct = nI S.1.length := hR.1.1.1
  refine lv_aload_n hx hb d_MD_box_0 rfl (lv_at hl 0 rfl) ?_
  refine lv_iload_n hx hb d_MD_box_1 rfl (lv_at hl 1 rfl) ?_
  refine lv_if_lt (tgt := 19) hx hb d_MD_box_2 (by decide) (fun c0 => absurd c0 (i32_nlt hv0)) (fun _ => ?_)
  refine lv_iload_n hx hb d_MD_box_5 rfl (lv_at hl 2 rfl) ?_
  refine vp_callSi (va_Run.run (va_runS (As := [.int h]) (rest := [.ref (A 0)]) ⟨hx, hb, hml, hown, hts⟩ (c_MD_isSize l h) (cwS 1 hts (tb_S tw_773 tw_774 tw_8 tw_775) rfl rfl rfl (by decide +kernel) ⟨(Nat.le_of_ble_eq_true rfl), (Nat.le_of_ble_eq_true rfl)⟩) pz_preP rfl rfl hl.1 rfl (lv_room (Nat.le_of_ble_eq_true rfl)) d_MD_box_6 ⟨(Nat.le_of_ble_eq_true rfl), (Nat.le_of_ble_eq_true rfl)⟩)) (fun r1 hw => ?_)
  have hw : r1 = 1 := k_by (show k_b (k_isS h) r1 from hw) hv1
  subst hw
  refine lv_if_eq (tgt := 19) hx hb d_MD_box_9 (by decide) (fun c0 => absurd c0 (by decide)) (fun _ => ?_)
  refine lv_iload_n hx hb d_MD_box_12 rfl (lv_at hl 3 rfl) ?_
  refine vp_callSi (va_Run.run (va_runS (As := [.int d]) (rest := [.ref (A 0)]) ⟨hx, hb, hml, hown, hts⟩ (c_MD_isSize l d) (cwS 1 hts (tb_S tw_773 tw_774 tw_8 tw_775) rfl rfl rfl (by decide +kernel) ⟨(Nat.le_of_ble_eq_true rfl), (Nat.le_of_ble_eq_true rfl)⟩) pz_preP rfl rfl hl.1 rfl (lv_room (Nat.le_of_ble_eq_true rfl)) d_MD_box_13 ⟨(Nat.le_of_ble_eq_true rfl), (Nat.le_of_ble_eq_true rfl)⟩)) (fun r2 hw => ?_)
  have hw : r2 = 1 := k_by (show k_b (k_isS d) r2 from hw) hv2
  subst hw
  refine lv_if_ne (tgt := 23) hx hb d_MD_box_16 (by decide) (fun _ => ?_) (fun c0 => absurd c0 (by decide))
  refine lv_aload_n hx hb d_MD_box_23 rfl (lv_at hl 0 rfl) ?_
  have h_3 : mF G A M (A 0) = .inr (10, [.int M.th, .ref (A 1), .ref (A 2), .ref (A 3), .ref (A 4), .ref (A 5), .int M.ct, .int M.ht, .int M.tp, .int M.gr, .ref (A 6), .ref (A 7), .ref (A 8), .ref (A 9), .ref (A 10), .ref (A 11), .ref (A 12), .int M.pg, .int M.bg, .int M.io, .int M.be, .int M.le, .long M.ln, .long M.dp, .ref (A 13), .long M.sh]) := mf_at hA9 M 0 (by decide)
  refine pz_get (ci := 10) (C := "PageMakerModel") (T := T_MD) (N := 26) hx hb htb in_MD hown hK hP (lm_in (by decide)) h_3 rfl 6 (by decide) (htb _ tw_688) (fun _ h9 => h9) rfl d_MD_box_24 ?_
  refine lv_topi (fun x4 ex4 => ?_)
  have ex4 : x4 = nI S.1.length := ex4.trans (q1)
  subst ex4
  refine lv_sipush (v := 2000) hx hb d_MD_box_27 (by decide) ?_
  refine lv_icmp_ne (tgt := 37) hx hb d_MD_box_30 (by decide) (fun _ => ?_) (fun c0 => absurd c0 (nI_2000 hl5))
  refine lv_iconst (v := 0) hx hb d_MD_box_37 (by decide) ?_
  refine pz_put (ci := 10) (v := .int 0) (ty := .int) (C := "PageMakerModel") (T := T_MD) (N := 26) hx hb htb in_MD ty_MD to_MD nm_MD hown hK hP hD hS (lm_in (by decide)) h_3 rfl 0 (by decide) (htb _ tw_682) (fun _ h9 => h9) rfl rfl rfl rfl (Nat.le_of_ble_eq_true rfl) d_MD_box_38 (fun f5 H locs ef5 hP hD hS => ?_)
  have ef5 : f5 = va_up (mF G A M) (A 0) (.inr (10, [.int 0, .ref (A 1), .ref (A 2), .ref (A 3), .ref (A 4), .ref (A 5), .int M.ct, .int M.ht, .int M.tp, .int M.gr, .ref (A 6), .ref (A 7), .ref (A 8), .ref (A 9), .ref (A 10), .ref (A 11), .ref (A 12), .int M.pg, .int M.bg, .int M.io, .int M.be, .int M.le, .long M.ln, .long M.dp, .ref (A 13), .long M.sh])) := ef5
  have ef5 : f5 = mF G A (M.si 0 0) := ef5.trans (mf_o hA9 (M1 := M.si 0 0) rfl rfl)
  subst ef5
  refine lv_aload_n hx hb d_MD_box_41 rfl (lv_at hl 0 rfl) ?_
  have h_6 : mF G A (M.si 0 0) (A 0) = .inr (10, [.int 0, .ref (A 1), .ref (A 2), .ref (A 3), .ref (A 4), .ref (A 5), .int M.ct, .int M.ht, .int M.tp, .int M.gr, .ref (A 6), .ref (A 7), .ref (A 8), .ref (A 9), .ref (A 10), .ref (A 11), .ref (A 12), .int M.pg, .int M.bg, .int M.io, .int M.be, .int M.le, .long M.ln, .long M.dp, .ref (A 13), .long M.sh]) := mf_at hA9 (M.si 0 0) 0 (by decide)
  refine pz_get (ci := 10) (C := "PageMakerModel") (T := T_MD) (N := 26) hx hb htb in_MD hown hK hP (lm_in (by decide)) h_6 rfl 0 (by decide) (htb _ tw_682) (fun _ h9 => h9) rfl d_MD_box_42 ?_
  refine lv_if_le (tgt := 52) hx hb d_MD_box_45 (by decide) (fun _ => ?_) (fun c0 => absurd c0 (by decide))
  refine lv_aload_n hx hb d_MD_box_52 rfl (lv_at hl 0 rfl) ?_
  refine lv_iconst (v := 0) hx hb d_MD_box_53 (by decide) ?_
  refine lv_iload_n hx hb d_MD_box_54 rfl (lv_at hl 1 rfl) ?_
  refine lv_iload_n hx hb d_MD_box_55 rfl (lv_at hl 2 rfl) ?_
  refine lv_iload_n hx hb d_MD_box_56 rfl (lv_at hl 3 rfl) ?_
  refine lv_iconst (v := 0) hx hb d_MD_box_57 (by decide) ?_
  refine pz_ci (va_runV (As := [.int 0, .int tag, .int h, .int d, .int 0]) (rest := []) ⟨hx, hb, hml, hown, hts⟩ (c_MD_append l G A hA9 (M.si 0 0) _ S (.inl (h, d)) _ _ _ _ _ hJ (mr_th hR) hl5 ⟨hv1, hv2⟩ trivial ⟨rfl, rfl, rfl⟩) (cwV 5 hts (tb_V tw_781 tw_783 tp_13 tw_8 tw_784) rfl rfl rfl (by decide +kernel) ⟨(Nat.le_of_ble_eq_true rfl), (Nat.le_of_ble_eq_true rfl)⟩) (pz_preV (zz_ok _ _ _) hK hP hD hS hA hz (ci := 10) rfl rfl (lm_in (by decide)) h_6) rfl rfl hl.1 rfl (lv_room (Nat.le_of_ble_eq_true rfl)) d_MD_box_58 ⟨(Nat.le_of_ble_eq_true rfl), (Nat.le_of_ble_eq_true rfl)⟩) hP hD hS hA (fun r7 L8 f8 H locs hw hP hD hS => ?_)
  obtain ⟨M1, S9, hu, h1, h2, h3, h4⟩ := hw
  exact pz_iret hx hb hr rfl hlocks hK hP hD hS (Nat.le_of_ble_eq_true rfl) (Nat.le_of_ble_eq_true rfl) ⟨M1, S9, hu, h1, h2, h3, h4⟩ d_MD_box_61
set_option maxHeartbeats 4000000 in
set_option maxRecDepth 100000 in
/-- model: box, wrong -/
theorem x_MD_box (l : Launch) (G : gG) (A : Nat → Nat) (hA9 : mJn A) (M : MS) (sz : Nat) (tag h d : Int32) (hno9 : ¬ (0 ≤ tag ∧ k_isS h ∧ k_isS d)) : mI l y_MD_box w_MD_box ({ frames := 1, cells := 0, slots := 0, locals := 20 }) G (LM A) (mF G A M) sz [.ref (A 0), .int tag, .int h, .int d] 0 0 (fun r u => r = 0 ∧ u = (LM A, mF G A (M.si 0 1))) := by
  refine pz_met (cc := prog_12_method_18_code) (maxL := 4) (ret := (some .int)) (by decide) rfl (Nat.le_of_ble_eq_true rfl) ?_
  intro p e s m below meth c ls hx hb hr hml hts hown hlocks hin hsz hK hP hD hS hA hz hl
  have htb : ∀ w ∈ TB, w.before _ s = true := fun w h => hts w (List.mem_cons_of_mem _ h)
  have hl : lv_has ls 4 [(0, .ref (A 0)), (1, .int tag), (2, .int h), (3, .int d)] := hl
  refine lv_aload_n hx hb d_MD_box_0 rfl (lv_at hl 0 rfl) ?_
  refine lv_iload_n hx hb d_MD_box_1 rfl (lv_at hl 1 rfl) ?_
  refine lv_if_lt (tgt := 19) hx hb d_MD_box_2 (by decide) (fun c_1 => ?_) (fun c_1 => ?_)
  · refine lv_iconst (v := 1) hx hb d_MD_box_19 (by decide) ?_
    refine lv_goto (tgt := 38) hx hb d_MD_box_20 (by decide) ?_
    have h_2 : mF G A M (A 0) = .inr (10, [.int M.th, .ref (A 1), .ref (A 2), .ref (A 3), .ref (A 4), .ref (A 5), .int M.ct, .int M.ht, .int M.tp, .int M.gr, .ref (A 6), .ref (A 7), .ref (A 8), .ref (A 9), .ref (A 10), .ref (A 11), .ref (A 12), .int M.pg, .int M.bg, .int M.io, .int M.be, .int M.le, .long M.ln, .long M.dp, .ref (A 13), .long M.sh]) := mf_at hA9 M 0 (by decide)
    refine pz_put (ci := 10) (v := .int 1) (ty := .int) (C := "PageMakerModel") (T := T_MD) (N := 26) hx hb htb in_MD ty_MD to_MD nm_MD hown hK hP hD hS (lm_in (by decide)) h_2 rfl 0 (by decide) (htb _ tw_682) (fun _ h9 => h9) rfl rfl rfl rfl (Nat.le_of_ble_eq_true rfl) d_MD_box_38 (fun f3 H locs ef3 hP hD hS => ?_)
    have ef3 : f3 = va_up (mF G A M) (A 0) (.inr (10, [.int 1, .ref (A 1), .ref (A 2), .ref (A 3), .ref (A 4), .ref (A 5), .int M.ct, .int M.ht, .int M.tp, .int M.gr, .ref (A 6), .ref (A 7), .ref (A 8), .ref (A 9), .ref (A 10), .ref (A 11), .ref (A 12), .int M.pg, .int M.bg, .int M.io, .int M.be, .int M.le, .long M.ln, .long M.dp, .ref (A 13), .long M.sh])) := ef3
    have ef3 : f3 = mF G A (M.si 0 1) := ef3.trans (mf_o hA9 (M1 := M.si 0 1) rfl rfl)
    subst ef3
    refine lv_aload_n hx hb d_MD_box_41 rfl (lv_at hl 0 rfl) ?_
    have h_4 : mF G A (M.si 0 1) (A 0) = .inr (10, [.int 1, .ref (A 1), .ref (A 2), .ref (A 3), .ref (A 4), .ref (A 5), .int M.ct, .int M.ht, .int M.tp, .int M.gr, .ref (A 6), .ref (A 7), .ref (A 8), .ref (A 9), .ref (A 10), .ref (A 11), .ref (A 12), .int M.pg, .int M.bg, .int M.io, .int M.be, .int M.le, .long M.ln, .long M.dp, .ref (A 13), .long M.sh]) := mf_at hA9 (M.si 0 1) 0 (by decide)
    refine pz_get (ci := 10) (C := "PageMakerModel") (T := T_MD) (N := 26) hx hb htb in_MD hown hK hP (lm_in (by decide)) h_4 rfl 0 (by decide) (htb _ tw_682) (fun _ h9 => h9) rfl d_MD_box_42 ?_
    refine lv_if_le (tgt := 52) hx hb d_MD_box_45 (by decide) (fun c0 => absurd c0 (by decide)) (fun _ => ?_)
    refine lv_iconst (v := 0) hx hb d_MD_box_48 (by decide) ?_
    refine lv_goto (tgt := 61) hx hb d_MD_box_49 (by decide) ?_
    exact pz_iret hx hb hr rfl hlocks hK hP hD hS (Nat.le_of_ble_eq_true rfl) (Nat.le_of_ble_eq_true rfl) ⟨rfl, rfl⟩ d_MD_box_61
  · refine lv_iload_n hx hb d_MD_box_5 rfl (lv_at hl 2 rfl) ?_
    refine vp_callSi (va_Run.run (va_runS (As := [.int h]) (rest := [.ref (A 0)]) ⟨hx, hb, hml, hown, hts⟩ (c_MD_isSize l h) (cwS 1 hts (tb_S tw_773 tw_774 tw_8 tw_775) rfl rfl rfl (by decide +kernel) ⟨(Nat.le_of_ble_eq_true rfl), (Nat.le_of_ble_eq_true rfl)⟩) pz_preP rfl rfl hl.1 rfl (lv_room (Nat.le_of_ble_eq_true rfl)) d_MD_box_6 ⟨(Nat.le_of_ble_eq_true rfl), (Nat.le_of_ble_eq_true rfl)⟩)) (fun r5 hw => ?_)
    rcases (show k_b (k_isS h) r5 from hw) with ⟨rfl, hq6⟩ | ⟨rfl, hq6⟩
    · refine lv_if_eq (tgt := 19) hx hb d_MD_box_9 (by decide) (fun c0 => absurd c0 (by decide)) (fun _ => ?_)
      refine lv_iload_n hx hb d_MD_box_12 rfl (lv_at hl 3 rfl) ?_
      refine vp_callSi (va_Run.run (va_runS (As := [.int d]) (rest := [.ref (A 0)]) ⟨hx, hb, hml, hown, hts⟩ (c_MD_isSize l d) (cwS 1 hts (tb_S tw_773 tw_774 tw_8 tw_775) rfl rfl rfl (by decide +kernel) ⟨(Nat.le_of_ble_eq_true rfl), (Nat.le_of_ble_eq_true rfl)⟩) pz_preP rfl rfl hl.1 rfl (lv_room (Nat.le_of_ble_eq_true rfl)) d_MD_box_13 ⟨(Nat.le_of_ble_eq_true rfl), (Nat.le_of_ble_eq_true rfl)⟩)) (fun r7 hw => ?_)
      rcases (show k_b (k_isS d) r7 from hw) with ⟨rfl, hq8⟩ | ⟨rfl, hq8⟩
      · refine lv_if_ne (tgt := 23) hx hb d_MD_box_16 (by decide) (fun _ => ?_) (fun c0 => absurd c0 (by decide))
        exact absurd ⟨(i32_ge0 c_1), hq6, hq8⟩ hno9
      · refine lv_if_ne (tgt := 23) hx hb d_MD_box_16 (by decide) (fun c0 => absurd c0 (by decide)) (fun _ => ?_)
        refine lv_iconst (v := 1) hx hb d_MD_box_19 (by decide) ?_
        refine lv_goto (tgt := 38) hx hb d_MD_box_20 (by decide) ?_
        have h_9 : mF G A M (A 0) = .inr (10, [.int M.th, .ref (A 1), .ref (A 2), .ref (A 3), .ref (A 4), .ref (A 5), .int M.ct, .int M.ht, .int M.tp, .int M.gr, .ref (A 6), .ref (A 7), .ref (A 8), .ref (A 9), .ref (A 10), .ref (A 11), .ref (A 12), .int M.pg, .int M.bg, .int M.io, .int M.be, .int M.le, .long M.ln, .long M.dp, .ref (A 13), .long M.sh]) := mf_at hA9 M 0 (by decide)
        refine pz_put (ci := 10) (v := .int 1) (ty := .int) (C := "PageMakerModel") (T := T_MD) (N := 26) hx hb htb in_MD ty_MD to_MD nm_MD hown hK hP hD hS (lm_in (by decide)) h_9 rfl 0 (by decide) (htb _ tw_682) (fun _ h9 => h9) rfl rfl rfl rfl (Nat.le_of_ble_eq_true rfl) d_MD_box_38 (fun f10 H locs ef10 hP hD hS => ?_)
        have ef10 : f10 = va_up (mF G A M) (A 0) (.inr (10, [.int 1, .ref (A 1), .ref (A 2), .ref (A 3), .ref (A 4), .ref (A 5), .int M.ct, .int M.ht, .int M.tp, .int M.gr, .ref (A 6), .ref (A 7), .ref (A 8), .ref (A 9), .ref (A 10), .ref (A 11), .ref (A 12), .int M.pg, .int M.bg, .int M.io, .int M.be, .int M.le, .long M.ln, .long M.dp, .ref (A 13), .long M.sh])) := ef10
        have ef10 : f10 = mF G A (M.si 0 1) := ef10.trans (mf_o hA9 (M1 := M.si 0 1) rfl rfl)
        subst ef10
        refine lv_aload_n hx hb d_MD_box_41 rfl (lv_at hl 0 rfl) ?_
        have h_11 : mF G A (M.si 0 1) (A 0) = .inr (10, [.int 1, .ref (A 1), .ref (A 2), .ref (A 3), .ref (A 4), .ref (A 5), .int M.ct, .int M.ht, .int M.tp, .int M.gr, .ref (A 6), .ref (A 7), .ref (A 8), .ref (A 9), .ref (A 10), .ref (A 11), .ref (A 12), .int M.pg, .int M.bg, .int M.io, .int M.be, .int M.le, .long M.ln, .long M.dp, .ref (A 13), .long M.sh]) := mf_at hA9 (M.si 0 1) 0 (by decide)
        refine pz_get (ci := 10) (C := "PageMakerModel") (T := T_MD) (N := 26) hx hb htb in_MD hown hK hP (lm_in (by decide)) h_11 rfl 0 (by decide) (htb _ tw_682) (fun _ h9 => h9) rfl d_MD_box_42 ?_
        refine lv_if_le (tgt := 52) hx hb d_MD_box_45 (by decide) (fun c0 => absurd c0 (by decide)) (fun _ => ?_)
        refine lv_iconst (v := 0) hx hb d_MD_box_48 (by decide) ?_
        refine lv_goto (tgt := 61) hx hb d_MD_box_49 (by decide) ?_
        exact pz_iret hx hb hr rfl hlocks hK hP hD hS (Nat.le_of_ble_eq_true rfl) (Nat.le_of_ble_eq_true rfl) ⟨rfl, rfl⟩ d_MD_box_61
    · refine lv_if_eq (tgt := 19) hx hb d_MD_box_9 (by decide) (fun _ => ?_) (fun c0 => absurd c0 (by decide))
      refine lv_iconst (v := 1) hx hb d_MD_box_19 (by decide) ?_
      refine lv_goto (tgt := 38) hx hb d_MD_box_20 (by decide) ?_
      have h_12 : mF G A M (A 0) = .inr (10, [.int M.th, .ref (A 1), .ref (A 2), .ref (A 3), .ref (A 4), .ref (A 5), .int M.ct, .int M.ht, .int M.tp, .int M.gr, .ref (A 6), .ref (A 7), .ref (A 8), .ref (A 9), .ref (A 10), .ref (A 11), .ref (A 12), .int M.pg, .int M.bg, .int M.io, .int M.be, .int M.le, .long M.ln, .long M.dp, .ref (A 13), .long M.sh]) := mf_at hA9 M 0 (by decide)
      refine pz_put (ci := 10) (v := .int 1) (ty := .int) (C := "PageMakerModel") (T := T_MD) (N := 26) hx hb htb in_MD ty_MD to_MD nm_MD hown hK hP hD hS (lm_in (by decide)) h_12 rfl 0 (by decide) (htb _ tw_682) (fun _ h9 => h9) rfl rfl rfl rfl (Nat.le_of_ble_eq_true rfl) d_MD_box_38 (fun f13 H locs ef13 hP hD hS => ?_)
      have ef13 : f13 = va_up (mF G A M) (A 0) (.inr (10, [.int 1, .ref (A 1), .ref (A 2), .ref (A 3), .ref (A 4), .ref (A 5), .int M.ct, .int M.ht, .int M.tp, .int M.gr, .ref (A 6), .ref (A 7), .ref (A 8), .ref (A 9), .ref (A 10), .ref (A 11), .ref (A 12), .int M.pg, .int M.bg, .int M.io, .int M.be, .int M.le, .long M.ln, .long M.dp, .ref (A 13), .long M.sh])) := ef13
      have ef13 : f13 = mF G A (M.si 0 1) := ef13.trans (mf_o hA9 (M1 := M.si 0 1) rfl rfl)
      subst ef13
      refine lv_aload_n hx hb d_MD_box_41 rfl (lv_at hl 0 rfl) ?_
      have h_14 : mF G A (M.si 0 1) (A 0) = .inr (10, [.int 1, .ref (A 1), .ref (A 2), .ref (A 3), .ref (A 4), .ref (A 5), .int M.ct, .int M.ht, .int M.tp, .int M.gr, .ref (A 6), .ref (A 7), .ref (A 8), .ref (A 9), .ref (A 10), .ref (A 11), .ref (A 12), .int M.pg, .int M.bg, .int M.io, .int M.be, .int M.le, .long M.ln, .long M.dp, .ref (A 13), .long M.sh]) := mf_at hA9 (M.si 0 1) 0 (by decide)
      refine pz_get (ci := 10) (C := "PageMakerModel") (T := T_MD) (N := 26) hx hb htb in_MD hown hK hP (lm_in (by decide)) h_14 rfl 0 (by decide) (htb _ tw_682) (fun _ h9 => h9) rfl d_MD_box_42 ?_
      refine lv_if_le (tgt := 52) hx hb d_MD_box_45 (by decide) (fun c0 => absurd c0 (by decide)) (fun _ => ?_)
      refine lv_iconst (v := 0) hx hb d_MD_box_48 (by decide) ?_
      refine lv_goto (tgt := 61) hx hb d_MD_box_49 (by decide) ?_
      exact pz_iret hx hb hr rfl hlocks hK hP hD hS (Nat.le_of_ble_eq_true rfl) (Nat.le_of_ble_eq_true rfl) ⟨rfl, rfl⟩ d_MD_box_61
set_option maxHeartbeats 4000000 in
set_option maxRecDepth 100000 in
/-- model: glue, right -/
theorem c_MD_glue (l : Launch) (G : gG) (A : Nat → Nat) (hA9 : mJn A) (M : MS) (sz : Nat) (S : CS) (wd st od sh : Int32) (hJ : J S S.1.length) (hR : MR M S) (hl5 : S.1.length < 512) (hv0 : k_isS wd) (hv1 : k_isZ st) (hv2 : k_isZ sh) (hv3 : 0 ≤ od) (hv4 : od < 4) : mI l y_MD_glue w_MD_glue ({ frames := 6, cells := 0, slots := 0, locals := 139 }) G (LM A) (mF G A M) sz [.ref (A 0), .int wd, .int st, .int od, .int sh] 0 0 (fun r u => ∃ (M1 : MS) (S9 : CS), u = (LM A, mF G A M1) ∧ c_run 4004001 (c_in S (.inr (.inl (wd, st, od, sh)))) S.1.length = (S9, S9.1.length) ∧ MR M1 S9 ∧ r = nI S9.2.2.1.length ∧ M1.th = 0) := by
  refine pz_met (cc := prog_12_method_19_code) (maxL := 5) (ret := (some .int)) (by decide) rfl (Nat.le_of_ble_eq_true rfl) ?_
  intro p e s m below meth c ls hx hb hr hml hts hown hlocks hin hsz hK hP hD hS hA hz hl
  have htb : ∀ w ∈ TB, w.before _ s = true := fun w h => hts w (List.mem_cons_of_mem _ h)
  have hl : lv_has ls 5 [(0, .ref (A 0)), (1, .int wd), (2, .int st), (3, .int od), (4, .int sh)] := hl
  have q1 : M.ct = nI S.1.length := hR.1.1.1
  refine lv_aload_n hx hb d_MD_glue_0 rfl (lv_at hl 0 rfl) ?_
  refine lv_iload_n hx hb d_MD_glue_1 rfl (lv_at hl 1 rfl) ?_
  refine vp_callSi (va_Run.run (va_runS (As := [.int wd]) (rest := [.ref (A 0)]) ⟨hx, hb, hml, hown, hts⟩ (c_MD_isSize l wd) (cwS 1 hts (tb_S tw_773 tw_774 tw_8 tw_775) rfl rfl rfl (by decide +kernel) ⟨(Nat.le_of_ble_eq_true rfl), (Nat.le_of_ble_eq_true rfl)⟩) pz_preP rfl rfl hl.1 rfl (lv_room (Nat.le_of_ble_eq_true rfl)) d_MD_glue_2 ⟨(Nat.le_of_ble_eq_true rfl), (Nat.le_of_ble_eq_true rfl)⟩)) (fun r1 hw => ?_)
  have hw : r1 = 1 := k_by (show k_b (k_isS wd) r1 from hw) hv0
  subst hw
  refine lv_if_eq (tgt := 32) hx hb d_MD_glue_5 (by decide) (fun c0 => absurd c0 (by decide)) (fun _ => ?_)
  refine lv_iload_n hx hb d_MD_glue_8 rfl (lv_at hl 2 rfl) ?_
  refine vp_callSi (va_Run.run (va_runS (As := [.int st]) (rest := [.ref (A 0)]) ⟨hx, hb, hml, hown, hts⟩ (c_MD_isMore l st) (cwS 1 hts (tb_S tw_770 tw_771 tw_8 tw_772) rfl rfl rfl (by decide +kernel) ⟨(Nat.le_of_ble_eq_true rfl), (Nat.le_of_ble_eq_true rfl)⟩) pz_preP rfl rfl hl.1 rfl (lv_room (Nat.le_of_ble_eq_true rfl)) d_MD_glue_9 ⟨(Nat.le_of_ble_eq_true rfl), (Nat.le_of_ble_eq_true rfl)⟩)) (fun r2 hw => ?_)
  have hw : r2 = 1 := k_by (show k_b (k_isZ st) r2 from hw) hv1
  subst hw
  refine lv_if_eq (tgt := 32) hx hb d_MD_glue_12 (by decide) (fun c0 => absurd c0 (by decide)) (fun _ => ?_)
  refine lv_iload hx hb d_MD_glue_15 (lv_at hl 4 rfl) ?_
  refine vp_callSi (va_Run.run (va_runS (As := [.int sh]) (rest := [.ref (A 0)]) ⟨hx, hb, hml, hown, hts⟩ (c_MD_isMore l sh) (cwS 1 hts (tb_S tw_770 tw_771 tw_8 tw_772) rfl rfl rfl (by decide +kernel) ⟨(Nat.le_of_ble_eq_true rfl), (Nat.le_of_ble_eq_true rfl)⟩) pz_preP rfl rfl hl.1 rfl (lv_room (Nat.le_of_ble_eq_true rfl)) d_MD_glue_17 ⟨(Nat.le_of_ble_eq_true rfl), (Nat.le_of_ble_eq_true rfl)⟩)) (fun r3 hw => ?_)
  have hw : r3 = 1 := k_by (show k_b (k_isZ sh) r3 from hw) hv2
  subst hw
  refine lv_if_eq (tgt := 32) hx hb d_MD_glue_20 (by decide) (fun c0 => absurd c0 (by decide)) (fun _ => ?_)
  refine lv_iload_n hx hb d_MD_glue_23 rfl (lv_at hl 3 rfl) ?_
  refine lv_if_lt (tgt := 32) hx hb d_MD_glue_24 (by decide) (fun c0 => absurd c0 (i32_nlt hv3)) (fun _ => ?_)
  refine lv_iload_n hx hb d_MD_glue_27 rfl (lv_at hl 3 rfl) ?_
  refine lv_iconst (v := 3) hx hb d_MD_glue_28 (by decide) ?_
  refine lv_icmp_le (tgt := 36) hx hb d_MD_glue_29 (by decide) (fun _ => ?_) (fun c0 => absurd (i32_le4 hv4) c0)
  refine lv_aload_n hx hb d_MD_glue_36 rfl (lv_at hl 0 rfl) ?_
  have h_4 : mF G A M (A 0) = .inr (10, [.int M.th, .ref (A 1), .ref (A 2), .ref (A 3), .ref (A 4), .ref (A 5), .int M.ct, .int M.ht, .int M.tp, .int M.gr, .ref (A 6), .ref (A 7), .ref (A 8), .ref (A 9), .ref (A 10), .ref (A 11), .ref (A 12), .int M.pg, .int M.bg, .int M.io, .int M.be, .int M.le, .long M.ln, .long M.dp, .ref (A 13), .long M.sh]) := mf_at hA9 M 0 (by decide)
  refine pz_get (ci := 10) (C := "PageMakerModel") (T := T_MD) (N := 26) hx hb htb in_MD hown hK hP (lm_in (by decide)) h_4 rfl 6 (by decide) (htb _ tw_688) (fun _ h9 => h9) rfl d_MD_glue_37 ?_
  refine lv_topi (fun x5 ex5 => ?_)
  have ex5 : x5 = nI S.1.length := ex5.trans (q1)
  subst ex5
  refine lv_sipush (v := 2000) hx hb d_MD_glue_40 (by decide) ?_
  refine lv_icmp_ne (tgt := 50) hx hb d_MD_glue_43 (by decide) (fun _ => ?_) (fun c0 => absurd c0 (nI_2000 hl5))
  refine lv_iconst (v := 0) hx hb d_MD_glue_50 (by decide) ?_
  refine pz_put (ci := 10) (v := .int 0) (ty := .int) (C := "PageMakerModel") (T := T_MD) (N := 26) hx hb htb in_MD ty_MD to_MD nm_MD hown hK hP hD hS (lm_in (by decide)) h_4 rfl 0 (by decide) (htb _ tw_682) (fun _ h9 => h9) rfl rfl rfl rfl (Nat.le_of_ble_eq_true rfl) d_MD_glue_51 (fun f6 H locs ef6 hP hD hS => ?_)
  have ef6 : f6 = va_up (mF G A M) (A 0) (.inr (10, [.int 0, .ref (A 1), .ref (A 2), .ref (A 3), .ref (A 4), .ref (A 5), .int M.ct, .int M.ht, .int M.tp, .int M.gr, .ref (A 6), .ref (A 7), .ref (A 8), .ref (A 9), .ref (A 10), .ref (A 11), .ref (A 12), .int M.pg, .int M.bg, .int M.io, .int M.be, .int M.le, .long M.ln, .long M.dp, .ref (A 13), .long M.sh])) := ef6
  have ef6 : f6 = mF G A (M.si 0 0) := ef6.trans (mf_o hA9 (M1 := M.si 0 0) rfl rfl)
  subst ef6
  refine lv_aload_n hx hb d_MD_glue_54 rfl (lv_at hl 0 rfl) ?_
  have h_7 : mF G A (M.si 0 0) (A 0) = .inr (10, [.int 0, .ref (A 1), .ref (A 2), .ref (A 3), .ref (A 4), .ref (A 5), .int M.ct, .int M.ht, .int M.tp, .int M.gr, .ref (A 6), .ref (A 7), .ref (A 8), .ref (A 9), .ref (A 10), .ref (A 11), .ref (A 12), .int M.pg, .int M.bg, .int M.io, .int M.be, .int M.le, .long M.ln, .long M.dp, .ref (A 13), .long M.sh]) := mf_at hA9 (M.si 0 0) 0 (by decide)
  refine pz_get (ci := 10) (C := "PageMakerModel") (T := T_MD) (N := 26) hx hb htb in_MD hown hK hP (lm_in (by decide)) h_7 rfl 0 (by decide) (htb _ tw_682) (fun _ h9 => h9) rfl d_MD_glue_55 ?_
  refine lv_if_le (tgt := 65) hx hb d_MD_glue_58 (by decide) (fun _ => ?_) (fun c0 => absurd c0 (by decide))
  refine lv_aload_n hx hb d_MD_glue_65 rfl (lv_at hl 0 rfl) ?_
  refine lv_iconst (v := 1) hx hb d_MD_glue_66 (by decide) ?_
  refine lv_iload_n hx hb d_MD_glue_67 rfl (lv_at hl 1 rfl) ?_
  refine lv_iload_n hx hb d_MD_glue_68 rfl (lv_at hl 2 rfl) ?_
  refine lv_iload hx hb d_MD_glue_69 (lv_at hl 4 rfl) ?_
  refine lv_iload_n hx hb d_MD_glue_71 rfl (lv_at hl 3 rfl) ?_
  refine pz_ci (va_runV (As := [.int 1, .int wd, .int st, .int sh, .int od]) (rest := []) ⟨hx, hb, hml, hown, hts⟩ (c_MD_append l G A hA9 (M.si 0 0) _ S (.inr (.inl (wd, st, od, sh))) _ _ _ _ _ hJ (mr_th hR) hl5 ⟨hv1, hv2, vp_4 hv3 hv4, hv0⟩ (vp_4 hv3 hv4) ⟨rfl, rfl, rfl, rfl, rfl⟩) (cwV 5 hts (tb_V tw_781 tw_783 tp_13 tw_8 tw_784) rfl rfl rfl (by decide +kernel) ⟨(Nat.le_of_ble_eq_true rfl), (Nat.le_of_ble_eq_true rfl)⟩) (pz_preV (zz_ok _ _ _) hK hP hD hS hA hz (ci := 10) rfl rfl (lm_in (by decide)) h_7) rfl rfl hl.1 rfl (lv_room (Nat.le_of_ble_eq_true rfl)) d_MD_glue_72 ⟨(Nat.le_of_ble_eq_true rfl), (Nat.le_of_ble_eq_true rfl)⟩) hP hD hS hA (fun r7 L8 f8 H locs hw hP hD hS => ?_)
  obtain ⟨M1, S9, hu, h1, h2, h3, h4⟩ := hw
  exact pz_iret hx hb hr rfl hlocks hK hP hD hS (Nat.le_of_ble_eq_true rfl) (Nat.le_of_ble_eq_true rfl) ⟨M1, S9, hu, h1, h2, h3, h4⟩ d_MD_glue_75
set_option maxHeartbeats 4000000 in
set_option maxRecDepth 100000 in
/-- model: glue, wrong -/
theorem x_MD_glue (l : Launch) (G : gG) (A : Nat → Nat) (hA9 : mJn A) (M : MS) (sz : Nat) (wd st od sh : Int32) (hno9 : ¬ (k_isS wd ∧ k_isZ st ∧ k_isZ sh ∧ 0 ≤ od ∧ od < 4)) : mI l y_MD_glue w_MD_glue ({ frames := 1, cells := 0, slots := 0, locals := 20 }) G (LM A) (mF G A M) sz [.ref (A 0), .int wd, .int st, .int od, .int sh] 0 0 (fun r u => r = 0 ∧ u = (LM A, mF G A (M.si 0 1))) := by
  refine pz_met (cc := prog_12_method_19_code) (maxL := 5) (ret := (some .int)) (by decide) rfl (Nat.le_of_ble_eq_true rfl) ?_
  intro p e s m below meth c ls hx hb hr hml hts hown hlocks hin hsz hK hP hD hS hA hz hl
  have htb : ∀ w ∈ TB, w.before _ s = true := fun w h => hts w (List.mem_cons_of_mem _ h)
  have hl : lv_has ls 5 [(0, .ref (A 0)), (1, .int wd), (2, .int st), (3, .int od), (4, .int sh)] := hl
  refine lv_aload_n hx hb d_MD_glue_0 rfl (lv_at hl 0 rfl) ?_
  refine lv_iload_n hx hb d_MD_glue_1 rfl (lv_at hl 1 rfl) ?_
  refine vp_callSi (va_Run.run (va_runS (As := [.int wd]) (rest := [.ref (A 0)]) ⟨hx, hb, hml, hown, hts⟩ (c_MD_isSize l wd) (cwS 1 hts (tb_S tw_773 tw_774 tw_8 tw_775) rfl rfl rfl (by decide +kernel) ⟨(Nat.le_of_ble_eq_true rfl), (Nat.le_of_ble_eq_true rfl)⟩) pz_preP rfl rfl hl.1 rfl (lv_room (Nat.le_of_ble_eq_true rfl)) d_MD_glue_2 ⟨(Nat.le_of_ble_eq_true rfl), (Nat.le_of_ble_eq_true rfl)⟩)) (fun r1 hw => ?_)
  rcases (show k_b (k_isS wd) r1 from hw) with ⟨rfl, hq2⟩ | ⟨rfl, hq2⟩
  · refine lv_if_eq (tgt := 32) hx hb d_MD_glue_5 (by decide) (fun c0 => absurd c0 (by decide)) (fun _ => ?_)
    refine lv_iload_n hx hb d_MD_glue_8 rfl (lv_at hl 2 rfl) ?_
    refine vp_callSi (va_Run.run (va_runS (As := [.int st]) (rest := [.ref (A 0)]) ⟨hx, hb, hml, hown, hts⟩ (c_MD_isMore l st) (cwS 1 hts (tb_S tw_770 tw_771 tw_8 tw_772) rfl rfl rfl (by decide +kernel) ⟨(Nat.le_of_ble_eq_true rfl), (Nat.le_of_ble_eq_true rfl)⟩) pz_preP rfl rfl hl.1 rfl (lv_room (Nat.le_of_ble_eq_true rfl)) d_MD_glue_9 ⟨(Nat.le_of_ble_eq_true rfl), (Nat.le_of_ble_eq_true rfl)⟩)) (fun r3 hw => ?_)
    rcases (show k_b (k_isZ st) r3 from hw) with ⟨rfl, hq4⟩ | ⟨rfl, hq4⟩
    · refine lv_if_eq (tgt := 32) hx hb d_MD_glue_12 (by decide) (fun c0 => absurd c0 (by decide)) (fun _ => ?_)
      refine lv_iload hx hb d_MD_glue_15 (lv_at hl 4 rfl) ?_
      refine vp_callSi (va_Run.run (va_runS (As := [.int sh]) (rest := [.ref (A 0)]) ⟨hx, hb, hml, hown, hts⟩ (c_MD_isMore l sh) (cwS 1 hts (tb_S tw_770 tw_771 tw_8 tw_772) rfl rfl rfl (by decide +kernel) ⟨(Nat.le_of_ble_eq_true rfl), (Nat.le_of_ble_eq_true rfl)⟩) pz_preP rfl rfl hl.1 rfl (lv_room (Nat.le_of_ble_eq_true rfl)) d_MD_glue_17 ⟨(Nat.le_of_ble_eq_true rfl), (Nat.le_of_ble_eq_true rfl)⟩)) (fun r5 hw => ?_)
      rcases (show k_b (k_isZ sh) r5 from hw) with ⟨rfl, hq6⟩ | ⟨rfl, hq6⟩
      · refine lv_if_eq (tgt := 32) hx hb d_MD_glue_20 (by decide) (fun c0 => absurd c0 (by decide)) (fun _ => ?_)
        refine lv_iload_n hx hb d_MD_glue_23 rfl (lv_at hl 3 rfl) ?_
        refine lv_if_lt (tgt := 32) hx hb d_MD_glue_24 (by decide) (fun c_7 => ?_) (fun c_7 => ?_)
        · refine lv_iconst (v := 1) hx hb d_MD_glue_32 (by decide) ?_
          refine lv_goto (tgt := 51) hx hb d_MD_glue_33 (by decide) ?_
          have h_8 : mF G A M (A 0) = .inr (10, [.int M.th, .ref (A 1), .ref (A 2), .ref (A 3), .ref (A 4), .ref (A 5), .int M.ct, .int M.ht, .int M.tp, .int M.gr, .ref (A 6), .ref (A 7), .ref (A 8), .ref (A 9), .ref (A 10), .ref (A 11), .ref (A 12), .int M.pg, .int M.bg, .int M.io, .int M.be, .int M.le, .long M.ln, .long M.dp, .ref (A 13), .long M.sh]) := mf_at hA9 M 0 (by decide)
          refine pz_put (ci := 10) (v := .int 1) (ty := .int) (C := "PageMakerModel") (T := T_MD) (N := 26) hx hb htb in_MD ty_MD to_MD nm_MD hown hK hP hD hS (lm_in (by decide)) h_8 rfl 0 (by decide) (htb _ tw_682) (fun _ h9 => h9) rfl rfl rfl rfl (Nat.le_of_ble_eq_true rfl) d_MD_glue_51 (fun f9 H locs ef9 hP hD hS => ?_)
          have ef9 : f9 = va_up (mF G A M) (A 0) (.inr (10, [.int 1, .ref (A 1), .ref (A 2), .ref (A 3), .ref (A 4), .ref (A 5), .int M.ct, .int M.ht, .int M.tp, .int M.gr, .ref (A 6), .ref (A 7), .ref (A 8), .ref (A 9), .ref (A 10), .ref (A 11), .ref (A 12), .int M.pg, .int M.bg, .int M.io, .int M.be, .int M.le, .long M.ln, .long M.dp, .ref (A 13), .long M.sh])) := ef9
          have ef9 : f9 = mF G A (M.si 0 1) := ef9.trans (mf_o hA9 (M1 := M.si 0 1) rfl rfl)
          subst ef9
          refine lv_aload_n hx hb d_MD_glue_54 rfl (lv_at hl 0 rfl) ?_
          have h_10 : mF G A (M.si 0 1) (A 0) = .inr (10, [.int 1, .ref (A 1), .ref (A 2), .ref (A 3), .ref (A 4), .ref (A 5), .int M.ct, .int M.ht, .int M.tp, .int M.gr, .ref (A 6), .ref (A 7), .ref (A 8), .ref (A 9), .ref (A 10), .ref (A 11), .ref (A 12), .int M.pg, .int M.bg, .int M.io, .int M.be, .int M.le, .long M.ln, .long M.dp, .ref (A 13), .long M.sh]) := mf_at hA9 (M.si 0 1) 0 (by decide)
          refine pz_get (ci := 10) (C := "PageMakerModel") (T := T_MD) (N := 26) hx hb htb in_MD hown hK hP (lm_in (by decide)) h_10 rfl 0 (by decide) (htb _ tw_682) (fun _ h9 => h9) rfl d_MD_glue_55 ?_
          refine lv_if_le (tgt := 65) hx hb d_MD_glue_58 (by decide) (fun c0 => absurd c0 (by decide)) (fun _ => ?_)
          refine lv_iconst (v := 0) hx hb d_MD_glue_61 (by decide) ?_
          refine lv_goto (tgt := 75) hx hb d_MD_glue_62 (by decide) ?_
          exact pz_iret hx hb hr rfl hlocks hK hP hD hS (Nat.le_of_ble_eq_true rfl) (Nat.le_of_ble_eq_true rfl) ⟨rfl, rfl⟩ d_MD_glue_75
        · refine lv_iload_n hx hb d_MD_glue_27 rfl (lv_at hl 3 rfl) ?_
          refine lv_iconst (v := 3) hx hb d_MD_glue_28 (by decide) ?_
          refine lv_icmp_le (tgt := 36) hx hb d_MD_glue_29 (by decide) (fun c_11 => ?_) (fun c_11 => ?_)
          · exact absurd ⟨hq2, hq4, hq6, (i32_ge0 c_7), (i32_lt4 c_11)⟩ hno9
          · refine lv_iconst (v := 1) hx hb d_MD_glue_32 (by decide) ?_
            refine lv_goto (tgt := 51) hx hb d_MD_glue_33 (by decide) ?_
            have h_12 : mF G A M (A 0) = .inr (10, [.int M.th, .ref (A 1), .ref (A 2), .ref (A 3), .ref (A 4), .ref (A 5), .int M.ct, .int M.ht, .int M.tp, .int M.gr, .ref (A 6), .ref (A 7), .ref (A 8), .ref (A 9), .ref (A 10), .ref (A 11), .ref (A 12), .int M.pg, .int M.bg, .int M.io, .int M.be, .int M.le, .long M.ln, .long M.dp, .ref (A 13), .long M.sh]) := mf_at hA9 M 0 (by decide)
            refine pz_put (ci := 10) (v := .int 1) (ty := .int) (C := "PageMakerModel") (T := T_MD) (N := 26) hx hb htb in_MD ty_MD to_MD nm_MD hown hK hP hD hS (lm_in (by decide)) h_12 rfl 0 (by decide) (htb _ tw_682) (fun _ h9 => h9) rfl rfl rfl rfl (Nat.le_of_ble_eq_true rfl) d_MD_glue_51 (fun f13 H locs ef13 hP hD hS => ?_)
            have ef13 : f13 = va_up (mF G A M) (A 0) (.inr (10, [.int 1, .ref (A 1), .ref (A 2), .ref (A 3), .ref (A 4), .ref (A 5), .int M.ct, .int M.ht, .int M.tp, .int M.gr, .ref (A 6), .ref (A 7), .ref (A 8), .ref (A 9), .ref (A 10), .ref (A 11), .ref (A 12), .int M.pg, .int M.bg, .int M.io, .int M.be, .int M.le, .long M.ln, .long M.dp, .ref (A 13), .long M.sh])) := ef13
            have ef13 : f13 = mF G A (M.si 0 1) := ef13.trans (mf_o hA9 (M1 := M.si 0 1) rfl rfl)
            subst ef13
            refine lv_aload_n hx hb d_MD_glue_54 rfl (lv_at hl 0 rfl) ?_
            have h_14 : mF G A (M.si 0 1) (A 0) = .inr (10, [.int 1, .ref (A 1), .ref (A 2), .ref (A 3), .ref (A 4), .ref (A 5), .int M.ct, .int M.ht, .int M.tp, .int M.gr, .ref (A 6), .ref (A 7), .ref (A 8), .ref (A 9), .ref (A 10), .ref (A 11), .ref (A 12), .int M.pg, .int M.bg, .int M.io, .int M.be, .int M.le, .long M.ln, .long M.dp, .ref (A 13), .long M.sh]) := mf_at hA9 (M.si 0 1) 0 (by decide)
            refine pz_get (ci := 10) (C := "PageMakerModel") (T := T_MD) (N := 26) hx hb htb in_MD hown hK hP (lm_in (by decide)) h_14 rfl 0 (by decide) (htb _ tw_682) (fun _ h9 => h9) rfl d_MD_glue_55 ?_
            refine lv_if_le (tgt := 65) hx hb d_MD_glue_58 (by decide) (fun c0 => absurd c0 (by decide)) (fun _ => ?_)
            refine lv_iconst (v := 0) hx hb d_MD_glue_61 (by decide) ?_
            refine lv_goto (tgt := 75) hx hb d_MD_glue_62 (by decide) ?_
            exact pz_iret hx hb hr rfl hlocks hK hP hD hS (Nat.le_of_ble_eq_true rfl) (Nat.le_of_ble_eq_true rfl) ⟨rfl, rfl⟩ d_MD_glue_75
      · refine lv_if_eq (tgt := 32) hx hb d_MD_glue_20 (by decide) (fun _ => ?_) (fun c0 => absurd c0 (by decide))
        refine lv_iconst (v := 1) hx hb d_MD_glue_32 (by decide) ?_
        refine lv_goto (tgt := 51) hx hb d_MD_glue_33 (by decide) ?_
        have h_15 : mF G A M (A 0) = .inr (10, [.int M.th, .ref (A 1), .ref (A 2), .ref (A 3), .ref (A 4), .ref (A 5), .int M.ct, .int M.ht, .int M.tp, .int M.gr, .ref (A 6), .ref (A 7), .ref (A 8), .ref (A 9), .ref (A 10), .ref (A 11), .ref (A 12), .int M.pg, .int M.bg, .int M.io, .int M.be, .int M.le, .long M.ln, .long M.dp, .ref (A 13), .long M.sh]) := mf_at hA9 M 0 (by decide)
        refine pz_put (ci := 10) (v := .int 1) (ty := .int) (C := "PageMakerModel") (T := T_MD) (N := 26) hx hb htb in_MD ty_MD to_MD nm_MD hown hK hP hD hS (lm_in (by decide)) h_15 rfl 0 (by decide) (htb _ tw_682) (fun _ h9 => h9) rfl rfl rfl rfl (Nat.le_of_ble_eq_true rfl) d_MD_glue_51 (fun f16 H locs ef16 hP hD hS => ?_)
        have ef16 : f16 = va_up (mF G A M) (A 0) (.inr (10, [.int 1, .ref (A 1), .ref (A 2), .ref (A 3), .ref (A 4), .ref (A 5), .int M.ct, .int M.ht, .int M.tp, .int M.gr, .ref (A 6), .ref (A 7), .ref (A 8), .ref (A 9), .ref (A 10), .ref (A 11), .ref (A 12), .int M.pg, .int M.bg, .int M.io, .int M.be, .int M.le, .long M.ln, .long M.dp, .ref (A 13), .long M.sh])) := ef16
        have ef16 : f16 = mF G A (M.si 0 1) := ef16.trans (mf_o hA9 (M1 := M.si 0 1) rfl rfl)
        subst ef16
        refine lv_aload_n hx hb d_MD_glue_54 rfl (lv_at hl 0 rfl) ?_
        have h_17 : mF G A (M.si 0 1) (A 0) = .inr (10, [.int 1, .ref (A 1), .ref (A 2), .ref (A 3), .ref (A 4), .ref (A 5), .int M.ct, .int M.ht, .int M.tp, .int M.gr, .ref (A 6), .ref (A 7), .ref (A 8), .ref (A 9), .ref (A 10), .ref (A 11), .ref (A 12), .int M.pg, .int M.bg, .int M.io, .int M.be, .int M.le, .long M.ln, .long M.dp, .ref (A 13), .long M.sh]) := mf_at hA9 (M.si 0 1) 0 (by decide)
        refine pz_get (ci := 10) (C := "PageMakerModel") (T := T_MD) (N := 26) hx hb htb in_MD hown hK hP (lm_in (by decide)) h_17 rfl 0 (by decide) (htb _ tw_682) (fun _ h9 => h9) rfl d_MD_glue_55 ?_
        refine lv_if_le (tgt := 65) hx hb d_MD_glue_58 (by decide) (fun c0 => absurd c0 (by decide)) (fun _ => ?_)
        refine lv_iconst (v := 0) hx hb d_MD_glue_61 (by decide) ?_
        refine lv_goto (tgt := 75) hx hb d_MD_glue_62 (by decide) ?_
        exact pz_iret hx hb hr rfl hlocks hK hP hD hS (Nat.le_of_ble_eq_true rfl) (Nat.le_of_ble_eq_true rfl) ⟨rfl, rfl⟩ d_MD_glue_75
    · refine lv_if_eq (tgt := 32) hx hb d_MD_glue_12 (by decide) (fun _ => ?_) (fun c0 => absurd c0 (by decide))
      refine lv_iconst (v := 1) hx hb d_MD_glue_32 (by decide) ?_
      refine lv_goto (tgt := 51) hx hb d_MD_glue_33 (by decide) ?_
      have h_18 : mF G A M (A 0) = .inr (10, [.int M.th, .ref (A 1), .ref (A 2), .ref (A 3), .ref (A 4), .ref (A 5), .int M.ct, .int M.ht, .int M.tp, .int M.gr, .ref (A 6), .ref (A 7), .ref (A 8), .ref (A 9), .ref (A 10), .ref (A 11), .ref (A 12), .int M.pg, .int M.bg, .int M.io, .int M.be, .int M.le, .long M.ln, .long M.dp, .ref (A 13), .long M.sh]) := mf_at hA9 M 0 (by decide)
      refine pz_put (ci := 10) (v := .int 1) (ty := .int) (C := "PageMakerModel") (T := T_MD) (N := 26) hx hb htb in_MD ty_MD to_MD nm_MD hown hK hP hD hS (lm_in (by decide)) h_18 rfl 0 (by decide) (htb _ tw_682) (fun _ h9 => h9) rfl rfl rfl rfl (Nat.le_of_ble_eq_true rfl) d_MD_glue_51 (fun f19 H locs ef19 hP hD hS => ?_)
      have ef19 : f19 = va_up (mF G A M) (A 0) (.inr (10, [.int 1, .ref (A 1), .ref (A 2), .ref (A 3), .ref (A 4), .ref (A 5), .int M.ct, .int M.ht, .int M.tp, .int M.gr, .ref (A 6), .ref (A 7), .ref (A 8), .ref (A 9), .ref (A 10), .ref (A 11), .ref (A 12), .int M.pg, .int M.bg, .int M.io, .int M.be, .int M.le, .long M.ln, .long M.dp, .ref (A 13), .long M.sh])) := ef19
      have ef19 : f19 = mF G A (M.si 0 1) := ef19.trans (mf_o hA9 (M1 := M.si 0 1) rfl rfl)
      subst ef19
      refine lv_aload_n hx hb d_MD_glue_54 rfl (lv_at hl 0 rfl) ?_
      have h_20 : mF G A (M.si 0 1) (A 0) = .inr (10, [.int 1, .ref (A 1), .ref (A 2), .ref (A 3), .ref (A 4), .ref (A 5), .int M.ct, .int M.ht, .int M.tp, .int M.gr, .ref (A 6), .ref (A 7), .ref (A 8), .ref (A 9), .ref (A 10), .ref (A 11), .ref (A 12), .int M.pg, .int M.bg, .int M.io, .int M.be, .int M.le, .long M.ln, .long M.dp, .ref (A 13), .long M.sh]) := mf_at hA9 (M.si 0 1) 0 (by decide)
      refine pz_get (ci := 10) (C := "PageMakerModel") (T := T_MD) (N := 26) hx hb htb in_MD hown hK hP (lm_in (by decide)) h_20 rfl 0 (by decide) (htb _ tw_682) (fun _ h9 => h9) rfl d_MD_glue_55 ?_
      refine lv_if_le (tgt := 65) hx hb d_MD_glue_58 (by decide) (fun c0 => absurd c0 (by decide)) (fun _ => ?_)
      refine lv_iconst (v := 0) hx hb d_MD_glue_61 (by decide) ?_
      refine lv_goto (tgt := 75) hx hb d_MD_glue_62 (by decide) ?_
      exact pz_iret hx hb hr rfl hlocks hK hP hD hS (Nat.le_of_ble_eq_true rfl) (Nat.le_of_ble_eq_true rfl) ⟨rfl, rfl⟩ d_MD_glue_75
  · refine lv_if_eq (tgt := 32) hx hb d_MD_glue_5 (by decide) (fun _ => ?_) (fun c0 => absurd c0 (by decide))
    refine lv_iconst (v := 1) hx hb d_MD_glue_32 (by decide) ?_
    refine lv_goto (tgt := 51) hx hb d_MD_glue_33 (by decide) ?_
    have h_21 : mF G A M (A 0) = .inr (10, [.int M.th, .ref (A 1), .ref (A 2), .ref (A 3), .ref (A 4), .ref (A 5), .int M.ct, .int M.ht, .int M.tp, .int M.gr, .ref (A 6), .ref (A 7), .ref (A 8), .ref (A 9), .ref (A 10), .ref (A 11), .ref (A 12), .int M.pg, .int M.bg, .int M.io, .int M.be, .int M.le, .long M.ln, .long M.dp, .ref (A 13), .long M.sh]) := mf_at hA9 M 0 (by decide)
    refine pz_put (ci := 10) (v := .int 1) (ty := .int) (C := "PageMakerModel") (T := T_MD) (N := 26) hx hb htb in_MD ty_MD to_MD nm_MD hown hK hP hD hS (lm_in (by decide)) h_21 rfl 0 (by decide) (htb _ tw_682) (fun _ h9 => h9) rfl rfl rfl rfl (Nat.le_of_ble_eq_true rfl) d_MD_glue_51 (fun f22 H locs ef22 hP hD hS => ?_)
    have ef22 : f22 = va_up (mF G A M) (A 0) (.inr (10, [.int 1, .ref (A 1), .ref (A 2), .ref (A 3), .ref (A 4), .ref (A 5), .int M.ct, .int M.ht, .int M.tp, .int M.gr, .ref (A 6), .ref (A 7), .ref (A 8), .ref (A 9), .ref (A 10), .ref (A 11), .ref (A 12), .int M.pg, .int M.bg, .int M.io, .int M.be, .int M.le, .long M.ln, .long M.dp, .ref (A 13), .long M.sh])) := ef22
    have ef22 : f22 = mF G A (M.si 0 1) := ef22.trans (mf_o hA9 (M1 := M.si 0 1) rfl rfl)
    subst ef22
    refine lv_aload_n hx hb d_MD_glue_54 rfl (lv_at hl 0 rfl) ?_
    have h_23 : mF G A (M.si 0 1) (A 0) = .inr (10, [.int 1, .ref (A 1), .ref (A 2), .ref (A 3), .ref (A 4), .ref (A 5), .int M.ct, .int M.ht, .int M.tp, .int M.gr, .ref (A 6), .ref (A 7), .ref (A 8), .ref (A 9), .ref (A 10), .ref (A 11), .ref (A 12), .int M.pg, .int M.bg, .int M.io, .int M.be, .int M.le, .long M.ln, .long M.dp, .ref (A 13), .long M.sh]) := mf_at hA9 (M.si 0 1) 0 (by decide)
    refine pz_get (ci := 10) (C := "PageMakerModel") (T := T_MD) (N := 26) hx hb htb in_MD hown hK hP (lm_in (by decide)) h_23 rfl 0 (by decide) (htb _ tw_682) (fun _ h9 => h9) rfl d_MD_glue_55 ?_
    refine lv_if_le (tgt := 65) hx hb d_MD_glue_58 (by decide) (fun c0 => absurd c0 (by decide)) (fun _ => ?_)
    refine lv_iconst (v := 0) hx hb d_MD_glue_61 (by decide) ?_
    refine lv_goto (tgt := 75) hx hb d_MD_glue_62 (by decide) ?_
    exact pz_iret hx hb hr rfl hlocks hK hP hD hS (Nat.le_of_ble_eq_true rfl) (Nat.le_of_ble_eq_true rfl) ⟨rfl, rfl⟩ d_MD_glue_75
set_option maxHeartbeats 4000000 in
set_option maxRecDepth 100000 in
/-- model: kern, right -/
theorem c_MD_kern (l : Launch) (G : gG) (A : Nat → Nat) (hA9 : mJn A) (M : MS) (sz : Nat) (S : CS) (wd : Int32) (hJ : J S S.1.length) (hR : MR M S) (hl5 : S.1.length < 512) (hv0 : k_isS wd) : mI l y_MD_kern w_MD_kern ({ frames := 6, cells := 0, slots := 0, locals := 139 }) G (LM A) (mF G A M) sz [.ref (A 0), .int wd] 0 0 (fun r u => ∃ (M1 : MS) (S9 : CS), u = (LM A, mF G A M1) ∧ c_run 4004001 (c_in S (.inr (.inr (.inl wd)))) S.1.length = (S9, S9.1.length) ∧ MR M1 S9 ∧ r = nI S9.2.2.1.length ∧ M1.th = 0) := by
  refine pz_met (cc := prog_12_method_20_code) (maxL := 2) (ret := (some .int)) (by decide) rfl (Nat.le_of_ble_eq_true rfl) ?_
  intro p e s m below meth c ls hx hb hr hml hts hown hlocks hin hsz hK hP hD hS hA hz hl
  have htb : ∀ w ∈ TB, w.before _ s = true := fun w h => hts w (List.mem_cons_of_mem _ h)
  have hl : lv_has ls 2 [(0, .ref (A 0)), (1, .int wd)] := hl
  have q1 : M.ct = nI S.1.length := hR.1.1.1
  refine lv_aload_n hx hb d_MD_kern_0 rfl (lv_at hl 0 rfl) ?_
  refine lv_iload_n hx hb d_MD_kern_1 rfl (lv_at hl 1 rfl) ?_
  refine vp_callSi (va_Run.run (va_runS (As := [.int wd]) (rest := [.ref (A 0)]) ⟨hx, hb, hml, hown, hts⟩ (c_MD_isSize l wd) (cwS 1 hts (tb_S tw_773 tw_774 tw_8 tw_775) rfl rfl rfl (by decide +kernel) ⟨(Nat.le_of_ble_eq_true rfl), (Nat.le_of_ble_eq_true rfl)⟩) pz_preP rfl rfl hl.1 rfl (lv_room (Nat.le_of_ble_eq_true rfl)) d_MD_kern_2 ⟨(Nat.le_of_ble_eq_true rfl), (Nat.le_of_ble_eq_true rfl)⟩)) (fun r1 hw => ?_)
  have hw : r1 = 1 := k_by (show k_b (k_isS wd) r1 from hw) hv0
  subst hw
  refine lv_if_ne (tgt := 12) hx hb d_MD_kern_5 (by decide) (fun _ => ?_) (fun c0 => absurd c0 (by decide))
  refine lv_aload_n hx hb d_MD_kern_12 rfl (lv_at hl 0 rfl) ?_
  have h_2 : mF G A M (A 0) = .inr (10, [.int M.th, .ref (A 1), .ref (A 2), .ref (A 3), .ref (A 4), .ref (A 5), .int M.ct, .int M.ht, .int M.tp, .int M.gr, .ref (A 6), .ref (A 7), .ref (A 8), .ref (A 9), .ref (A 10), .ref (A 11), .ref (A 12), .int M.pg, .int M.bg, .int M.io, .int M.be, .int M.le, .long M.ln, .long M.dp, .ref (A 13), .long M.sh]) := mf_at hA9 M 0 (by decide)
  refine pz_get (ci := 10) (C := "PageMakerModel") (T := T_MD) (N := 26) hx hb htb in_MD hown hK hP (lm_in (by decide)) h_2 rfl 6 (by decide) (htb _ tw_688) (fun _ h9 => h9) rfl d_MD_kern_13 ?_
  refine lv_topi (fun x3 ex3 => ?_)
  have ex3 : x3 = nI S.1.length := ex3.trans (q1)
  subst ex3
  refine lv_sipush (v := 2000) hx hb d_MD_kern_16 (by decide) ?_
  refine lv_icmp_ne (tgt := 26) hx hb d_MD_kern_19 (by decide) (fun _ => ?_) (fun c0 => absurd c0 (nI_2000 hl5))
  refine lv_iconst (v := 0) hx hb d_MD_kern_26 (by decide) ?_
  refine pz_put (ci := 10) (v := .int 0) (ty := .int) (C := "PageMakerModel") (T := T_MD) (N := 26) hx hb htb in_MD ty_MD to_MD nm_MD hown hK hP hD hS (lm_in (by decide)) h_2 rfl 0 (by decide) (htb _ tw_682) (fun _ h9 => h9) rfl rfl rfl rfl (Nat.le_of_ble_eq_true rfl) d_MD_kern_27 (fun f4 H locs ef4 hP hD hS => ?_)
  have ef4 : f4 = va_up (mF G A M) (A 0) (.inr (10, [.int 0, .ref (A 1), .ref (A 2), .ref (A 3), .ref (A 4), .ref (A 5), .int M.ct, .int M.ht, .int M.tp, .int M.gr, .ref (A 6), .ref (A 7), .ref (A 8), .ref (A 9), .ref (A 10), .ref (A 11), .ref (A 12), .int M.pg, .int M.bg, .int M.io, .int M.be, .int M.le, .long M.ln, .long M.dp, .ref (A 13), .long M.sh])) := ef4
  have ef4 : f4 = mF G A (M.si 0 0) := ef4.trans (mf_o hA9 (M1 := M.si 0 0) rfl rfl)
  subst ef4
  refine lv_aload_n hx hb d_MD_kern_30 rfl (lv_at hl 0 rfl) ?_
  have h_5 : mF G A (M.si 0 0) (A 0) = .inr (10, [.int 0, .ref (A 1), .ref (A 2), .ref (A 3), .ref (A 4), .ref (A 5), .int M.ct, .int M.ht, .int M.tp, .int M.gr, .ref (A 6), .ref (A 7), .ref (A 8), .ref (A 9), .ref (A 10), .ref (A 11), .ref (A 12), .int M.pg, .int M.bg, .int M.io, .int M.be, .int M.le, .long M.ln, .long M.dp, .ref (A 13), .long M.sh]) := mf_at hA9 (M.si 0 0) 0 (by decide)
  refine pz_get (ci := 10) (C := "PageMakerModel") (T := T_MD) (N := 26) hx hb htb in_MD hown hK hP (lm_in (by decide)) h_5 rfl 0 (by decide) (htb _ tw_682) (fun _ h9 => h9) rfl d_MD_kern_31 ?_
  refine lv_if_le (tgt := 41) hx hb d_MD_kern_34 (by decide) (fun _ => ?_) (fun c0 => absurd c0 (by decide))
  refine lv_aload_n hx hb d_MD_kern_41 rfl (lv_at hl 0 rfl) ?_
  refine lv_iconst (v := 2) hx hb d_MD_kern_42 (by decide) ?_
  refine lv_iload_n hx hb d_MD_kern_43 rfl (lv_at hl 1 rfl) ?_
  refine lv_iconst (v := 0) hx hb d_MD_kern_44 (by decide) ?_
  refine lv_iconst (v := 0) hx hb d_MD_kern_45 (by decide) ?_
  refine lv_iconst (v := 0) hx hb d_MD_kern_46 (by decide) ?_
  refine pz_ci (va_runV (As := [.int 2, .int wd, .int 0, .int 0, .int 0]) (rest := []) ⟨hx, hb, hml, hown, hts⟩ (c_MD_append l G A hA9 (M.si 0 0) _ S (.inr (.inr (.inl wd))) _ _ _ _ _ hJ (mr_th hR) hl5 hv0 trivial ⟨rfl, rfl⟩) (cwV 5 hts (tb_V tw_781 tw_783 tp_13 tw_8 tw_784) rfl rfl rfl (by decide +kernel) ⟨(Nat.le_of_ble_eq_true rfl), (Nat.le_of_ble_eq_true rfl)⟩) (pz_preV (zz_ok _ _ _) hK hP hD hS hA hz (ci := 10) rfl rfl (lm_in (by decide)) h_5) rfl rfl hl.1 rfl (lv_room (Nat.le_of_ble_eq_true rfl)) d_MD_kern_47 ⟨(Nat.le_of_ble_eq_true rfl), (Nat.le_of_ble_eq_true rfl)⟩) hP hD hS hA (fun r7 L8 f8 H locs hw hP hD hS => ?_)
  obtain ⟨M1, S9, hu, h1, h2, h3, h4⟩ := hw
  exact pz_iret hx hb hr rfl hlocks hK hP hD hS (Nat.le_of_ble_eq_true rfl) (Nat.le_of_ble_eq_true rfl) ⟨M1, S9, hu, h1, h2, h3, h4⟩ d_MD_kern_50
set_option maxHeartbeats 4000000 in
set_option maxRecDepth 100000 in
/-- model: kern, wrong -/
theorem x_MD_kern (l : Launch) (G : gG) (A : Nat → Nat) (hA9 : mJn A) (M : MS) (sz : Nat) (wd : Int32) (hno9 : ¬ (k_isS wd)) : mI l y_MD_kern w_MD_kern ({ frames := 1, cells := 0, slots := 0, locals := 20 }) G (LM A) (mF G A M) sz [.ref (A 0), .int wd] 0 0 (fun r u => r = 0 ∧ u = (LM A, mF G A (M.si 0 1))) := by
  refine pz_met (cc := prog_12_method_20_code) (maxL := 2) (ret := (some .int)) (by decide) rfl (Nat.le_of_ble_eq_true rfl) ?_
  intro p e s m below meth c ls hx hb hr hml hts hown hlocks hin hsz hK hP hD hS hA hz hl
  have htb : ∀ w ∈ TB, w.before _ s = true := fun w h => hts w (List.mem_cons_of_mem _ h)
  have hl : lv_has ls 2 [(0, .ref (A 0)), (1, .int wd)] := hl
  refine lv_aload_n hx hb d_MD_kern_0 rfl (lv_at hl 0 rfl) ?_
  refine lv_iload_n hx hb d_MD_kern_1 rfl (lv_at hl 1 rfl) ?_
  refine vp_callSi (va_Run.run (va_runS (As := [.int wd]) (rest := [.ref (A 0)]) ⟨hx, hb, hml, hown, hts⟩ (c_MD_isSize l wd) (cwS 1 hts (tb_S tw_773 tw_774 tw_8 tw_775) rfl rfl rfl (by decide +kernel) ⟨(Nat.le_of_ble_eq_true rfl), (Nat.le_of_ble_eq_true rfl)⟩) pz_preP rfl rfl hl.1 rfl (lv_room (Nat.le_of_ble_eq_true rfl)) d_MD_kern_2 ⟨(Nat.le_of_ble_eq_true rfl), (Nat.le_of_ble_eq_true rfl)⟩)) (fun r1 hw => ?_)
  rcases (show k_b (k_isS wd) r1 from hw) with ⟨rfl, hq2⟩ | ⟨rfl, hq2⟩
  · refine lv_if_ne (tgt := 12) hx hb d_MD_kern_5 (by decide) (fun _ => ?_) (fun c0 => absurd c0 (by decide))
    exact absurd hq2 hno9
  · refine lv_if_ne (tgt := 12) hx hb d_MD_kern_5 (by decide) (fun c0 => absurd c0 (by decide)) (fun _ => ?_)
    refine lv_iconst (v := 1) hx hb d_MD_kern_8 (by decide) ?_
    refine lv_goto (tgt := 27) hx hb d_MD_kern_9 (by decide) ?_
    have h_3 : mF G A M (A 0) = .inr (10, [.int M.th, .ref (A 1), .ref (A 2), .ref (A 3), .ref (A 4), .ref (A 5), .int M.ct, .int M.ht, .int M.tp, .int M.gr, .ref (A 6), .ref (A 7), .ref (A 8), .ref (A 9), .ref (A 10), .ref (A 11), .ref (A 12), .int M.pg, .int M.bg, .int M.io, .int M.be, .int M.le, .long M.ln, .long M.dp, .ref (A 13), .long M.sh]) := mf_at hA9 M 0 (by decide)
    refine pz_put (ci := 10) (v := .int 1) (ty := .int) (C := "PageMakerModel") (T := T_MD) (N := 26) hx hb htb in_MD ty_MD to_MD nm_MD hown hK hP hD hS (lm_in (by decide)) h_3 rfl 0 (by decide) (htb _ tw_682) (fun _ h9 => h9) rfl rfl rfl rfl (Nat.le_of_ble_eq_true rfl) d_MD_kern_27 (fun f4 H locs ef4 hP hD hS => ?_)
    have ef4 : f4 = va_up (mF G A M) (A 0) (.inr (10, [.int 1, .ref (A 1), .ref (A 2), .ref (A 3), .ref (A 4), .ref (A 5), .int M.ct, .int M.ht, .int M.tp, .int M.gr, .ref (A 6), .ref (A 7), .ref (A 8), .ref (A 9), .ref (A 10), .ref (A 11), .ref (A 12), .int M.pg, .int M.bg, .int M.io, .int M.be, .int M.le, .long M.ln, .long M.dp, .ref (A 13), .long M.sh])) := ef4
    have ef4 : f4 = mF G A (M.si 0 1) := ef4.trans (mf_o hA9 (M1 := M.si 0 1) rfl rfl)
    subst ef4
    refine lv_aload_n hx hb d_MD_kern_30 rfl (lv_at hl 0 rfl) ?_
    have h_5 : mF G A (M.si 0 1) (A 0) = .inr (10, [.int 1, .ref (A 1), .ref (A 2), .ref (A 3), .ref (A 4), .ref (A 5), .int M.ct, .int M.ht, .int M.tp, .int M.gr, .ref (A 6), .ref (A 7), .ref (A 8), .ref (A 9), .ref (A 10), .ref (A 11), .ref (A 12), .int M.pg, .int M.bg, .int M.io, .int M.be, .int M.le, .long M.ln, .long M.dp, .ref (A 13), .long M.sh]) := mf_at hA9 (M.si 0 1) 0 (by decide)
    refine pz_get (ci := 10) (C := "PageMakerModel") (T := T_MD) (N := 26) hx hb htb in_MD hown hK hP (lm_in (by decide)) h_5 rfl 0 (by decide) (htb _ tw_682) (fun _ h9 => h9) rfl d_MD_kern_31 ?_
    refine lv_if_le (tgt := 41) hx hb d_MD_kern_34 (by decide) (fun c0 => absurd c0 (by decide)) (fun _ => ?_)
    refine lv_iconst (v := 0) hx hb d_MD_kern_37 (by decide) ?_
    refine lv_goto (tgt := 50) hx hb d_MD_kern_38 (by decide) ?_
    exact pz_iret hx hb hr rfl hlocks hK hP hD hS (Nat.le_of_ble_eq_true rfl) (Nat.le_of_ble_eq_true rfl) ⟨rfl, rfl⟩ d_MD_kern_50
set_option maxHeartbeats 4000000 in
set_option maxRecDepth 100000 in
/-- model: penalty, right -/
theorem c_MD_penalty (l : Launch) (G : gG) (A : Nat → Nat) (hA9 : mJn A) (M : MS) (sz : Nat) (S : CS) (pp : Int32) (hJ : J S S.1.length) (hR : MR M S) (hl5 : S.1.length < 512) (hv0 : (-100000) ≤ pp) (hv1 : pp ≤ 100000) : mI l y_MD_penalty w_MD_penalty ({ frames := 6, cells := 0, slots := 0, locals := 139 }) G (LM A) (mF G A M) sz [.ref (A 0), .int pp] 0 0 (fun r u => ∃ (M1 : MS) (S9 : CS), u = (LM A, mF G A M1) ∧ c_run 4004001 (c_in S (.inr (.inr (.inr pp)))) S.1.length = (S9, S9.1.length) ∧ MR M1 S9 ∧ r = nI S9.2.2.1.length ∧ M1.th = 0) := by
  refine pz_met (cc := prog_12_method_21_code) (maxL := 2) (ret := (some .int)) (by decide) rfl (Nat.le_of_ble_eq_true rfl) ?_
  intro p e s m below meth c ls hx hb hr hml hts hown hlocks hin hsz hK hP hD hS hA hz hl
  have htb : ∀ w ∈ TB, w.before _ s = true := fun w h => hts w (List.mem_cons_of_mem _ h)
  have hl : lv_has ls 2 [(0, .ref (A 0)), (1, .int pp)] := hl
  have q1 : M.ct = nI S.1.length := hR.1.1.1
  refine lv_aload_n hx hb d_MD_penalty_0 rfl (lv_at hl 0 rfl) ?_
  refine lv_iload_n hx hb d_MD_penalty_1 rfl (lv_at hl 1 rfl) ?_
  refine lv_ldc (v := (-100000)) hx hb hown (htb _ tw_843) d_MD_penalty_2 ?_
  refine lv_icmp_lt (tgt := 13) hx hb d_MD_penalty_4 (by decide) (fun c0 => absurd c0 (i32_nlt hv0)) (fun _ => ?_)
  refine lv_iload_n hx hb d_MD_penalty_7 rfl (lv_at hl 1 rfl) ?_
  refine lv_ldc (v := 100000) hx hb hown (htb _ tw_830) d_MD_penalty_8 ?_
  refine lv_icmp_le (tgt := 17) hx hb d_MD_penalty_10 (by decide) (fun _ => ?_) (fun c0 => absurd hv1 c0)
  refine lv_aload_n hx hb d_MD_penalty_17 rfl (lv_at hl 0 rfl) ?_
  have h_1 : mF G A M (A 0) = .inr (10, [.int M.th, .ref (A 1), .ref (A 2), .ref (A 3), .ref (A 4), .ref (A 5), .int M.ct, .int M.ht, .int M.tp, .int M.gr, .ref (A 6), .ref (A 7), .ref (A 8), .ref (A 9), .ref (A 10), .ref (A 11), .ref (A 12), .int M.pg, .int M.bg, .int M.io, .int M.be, .int M.le, .long M.ln, .long M.dp, .ref (A 13), .long M.sh]) := mf_at hA9 M 0 (by decide)
  refine pz_get (ci := 10) (C := "PageMakerModel") (T := T_MD) (N := 26) hx hb htb in_MD hown hK hP (lm_in (by decide)) h_1 rfl 6 (by decide) (htb _ tw_688) (fun _ h9 => h9) rfl d_MD_penalty_18 ?_
  refine lv_topi (fun x2 ex2 => ?_)
  have ex2 : x2 = nI S.1.length := ex2.trans (q1)
  subst ex2
  refine lv_sipush (v := 2000) hx hb d_MD_penalty_21 (by decide) ?_
  refine lv_icmp_ne (tgt := 31) hx hb d_MD_penalty_24 (by decide) (fun _ => ?_) (fun c0 => absurd c0 (nI_2000 hl5))
  refine lv_iconst (v := 0) hx hb d_MD_penalty_31 (by decide) ?_
  refine pz_put (ci := 10) (v := .int 0) (ty := .int) (C := "PageMakerModel") (T := T_MD) (N := 26) hx hb htb in_MD ty_MD to_MD nm_MD hown hK hP hD hS (lm_in (by decide)) h_1 rfl 0 (by decide) (htb _ tw_682) (fun _ h9 => h9) rfl rfl rfl rfl (Nat.le_of_ble_eq_true rfl) d_MD_penalty_32 (fun f3 H locs ef3 hP hD hS => ?_)
  have ef3 : f3 = va_up (mF G A M) (A 0) (.inr (10, [.int 0, .ref (A 1), .ref (A 2), .ref (A 3), .ref (A 4), .ref (A 5), .int M.ct, .int M.ht, .int M.tp, .int M.gr, .ref (A 6), .ref (A 7), .ref (A 8), .ref (A 9), .ref (A 10), .ref (A 11), .ref (A 12), .int M.pg, .int M.bg, .int M.io, .int M.be, .int M.le, .long M.ln, .long M.dp, .ref (A 13), .long M.sh])) := ef3
  have ef3 : f3 = mF G A (M.si 0 0) := ef3.trans (mf_o hA9 (M1 := M.si 0 0) rfl rfl)
  subst ef3
  refine lv_aload_n hx hb d_MD_penalty_35 rfl (lv_at hl 0 rfl) ?_
  have h_4 : mF G A (M.si 0 0) (A 0) = .inr (10, [.int 0, .ref (A 1), .ref (A 2), .ref (A 3), .ref (A 4), .ref (A 5), .int M.ct, .int M.ht, .int M.tp, .int M.gr, .ref (A 6), .ref (A 7), .ref (A 8), .ref (A 9), .ref (A 10), .ref (A 11), .ref (A 12), .int M.pg, .int M.bg, .int M.io, .int M.be, .int M.le, .long M.ln, .long M.dp, .ref (A 13), .long M.sh]) := mf_at hA9 (M.si 0 0) 0 (by decide)
  refine pz_get (ci := 10) (C := "PageMakerModel") (T := T_MD) (N := 26) hx hb htb in_MD hown hK hP (lm_in (by decide)) h_4 rfl 0 (by decide) (htb _ tw_682) (fun _ h9 => h9) rfl d_MD_penalty_36 ?_
  refine lv_if_le (tgt := 46) hx hb d_MD_penalty_39 (by decide) (fun _ => ?_) (fun c0 => absurd c0 (by decide))
  refine lv_aload_n hx hb d_MD_penalty_46 rfl (lv_at hl 0 rfl) ?_
  refine lv_iconst (v := 3) hx hb d_MD_penalty_47 (by decide) ?_
  refine lv_iload_n hx hb d_MD_penalty_48 rfl (lv_at hl 1 rfl) ?_
  refine lv_iconst (v := 0) hx hb d_MD_penalty_49 (by decide) ?_
  refine lv_iconst (v := 0) hx hb d_MD_penalty_50 (by decide) ?_
  refine lv_iconst (v := 0) hx hb d_MD_penalty_51 (by decide) ?_
  refine pz_ci (va_runV (As := [.int 3, .int pp, .int 0, .int 0, .int 0]) (rest := []) ⟨hx, hb, hml, hown, hts⟩ (c_MD_append l G A hA9 (M.si 0 0) _ S (.inr (.inr (.inr pp))) _ _ _ _ _ hJ (mr_th hR) hl5 ⟨hv0, hv1⟩ trivial ⟨rfl, rfl⟩) (cwV 5 hts (tb_V tw_781 tw_783 tp_13 tw_8 tw_784) rfl rfl rfl (by decide +kernel) ⟨(Nat.le_of_ble_eq_true rfl), (Nat.le_of_ble_eq_true rfl)⟩) (pz_preV (zz_ok _ _ _) hK hP hD hS hA hz (ci := 10) rfl rfl (lm_in (by decide)) h_4) rfl rfl hl.1 rfl (lv_room (Nat.le_of_ble_eq_true rfl)) d_MD_penalty_52 ⟨(Nat.le_of_ble_eq_true rfl), (Nat.le_of_ble_eq_true rfl)⟩) hP hD hS hA (fun r7 L8 f8 H locs hw hP hD hS => ?_)
  obtain ⟨M1, S9, hu, h1, h2, h3, h4⟩ := hw
  exact pz_iret hx hb hr rfl hlocks hK hP hD hS (Nat.le_of_ble_eq_true rfl) (Nat.le_of_ble_eq_true rfl) ⟨M1, S9, hu, h1, h2, h3, h4⟩ d_MD_penalty_55
set_option maxHeartbeats 4000000 in
set_option maxRecDepth 100000 in
/-- model: penalty, wrong -/
theorem x_MD_penalty (l : Launch) (G : gG) (A : Nat → Nat) (hA9 : mJn A) (M : MS) (sz : Nat) (pp : Int32) (hno9 : ¬ ((-100000) ≤ pp ∧ pp ≤ 100000)) : mI l y_MD_penalty w_MD_penalty ({ frames := 1, cells := 0, slots := 0, locals := 20 }) G (LM A) (mF G A M) sz [.ref (A 0), .int pp] 0 0 (fun r u => r = 0 ∧ u = (LM A, mF G A (M.si 0 1))) := by
  refine pz_met (cc := prog_12_method_21_code) (maxL := 2) (ret := (some .int)) (by decide) rfl (Nat.le_of_ble_eq_true rfl) ?_
  intro p e s m below meth c ls hx hb hr hml hts hown hlocks hin hsz hK hP hD hS hA hz hl
  have htb : ∀ w ∈ TB, w.before _ s = true := fun w h => hts w (List.mem_cons_of_mem _ h)
  have hl : lv_has ls 2 [(0, .ref (A 0)), (1, .int pp)] := hl
  refine lv_aload_n hx hb d_MD_penalty_0 rfl (lv_at hl 0 rfl) ?_
  refine lv_iload_n hx hb d_MD_penalty_1 rfl (lv_at hl 1 rfl) ?_
  refine lv_ldc (v := (-100000)) hx hb hown (htb _ tw_843) d_MD_penalty_2 ?_
  refine lv_icmp_lt (tgt := 13) hx hb d_MD_penalty_4 (by decide) (fun c_1 => ?_) (fun c_1 => ?_)
  · refine lv_iconst (v := 1) hx hb d_MD_penalty_13 (by decide) ?_
    refine lv_goto (tgt := 32) hx hb d_MD_penalty_14 (by decide) ?_
    have h_2 : mF G A M (A 0) = .inr (10, [.int M.th, .ref (A 1), .ref (A 2), .ref (A 3), .ref (A 4), .ref (A 5), .int M.ct, .int M.ht, .int M.tp, .int M.gr, .ref (A 6), .ref (A 7), .ref (A 8), .ref (A 9), .ref (A 10), .ref (A 11), .ref (A 12), .int M.pg, .int M.bg, .int M.io, .int M.be, .int M.le, .long M.ln, .long M.dp, .ref (A 13), .long M.sh]) := mf_at hA9 M 0 (by decide)
    refine pz_put (ci := 10) (v := .int 1) (ty := .int) (C := "PageMakerModel") (T := T_MD) (N := 26) hx hb htb in_MD ty_MD to_MD nm_MD hown hK hP hD hS (lm_in (by decide)) h_2 rfl 0 (by decide) (htb _ tw_682) (fun _ h9 => h9) rfl rfl rfl rfl (Nat.le_of_ble_eq_true rfl) d_MD_penalty_32 (fun f3 H locs ef3 hP hD hS => ?_)
    have ef3 : f3 = va_up (mF G A M) (A 0) (.inr (10, [.int 1, .ref (A 1), .ref (A 2), .ref (A 3), .ref (A 4), .ref (A 5), .int M.ct, .int M.ht, .int M.tp, .int M.gr, .ref (A 6), .ref (A 7), .ref (A 8), .ref (A 9), .ref (A 10), .ref (A 11), .ref (A 12), .int M.pg, .int M.bg, .int M.io, .int M.be, .int M.le, .long M.ln, .long M.dp, .ref (A 13), .long M.sh])) := ef3
    have ef3 : f3 = mF G A (M.si 0 1) := ef3.trans (mf_o hA9 (M1 := M.si 0 1) rfl rfl)
    subst ef3
    refine lv_aload_n hx hb d_MD_penalty_35 rfl (lv_at hl 0 rfl) ?_
    have h_4 : mF G A (M.si 0 1) (A 0) = .inr (10, [.int 1, .ref (A 1), .ref (A 2), .ref (A 3), .ref (A 4), .ref (A 5), .int M.ct, .int M.ht, .int M.tp, .int M.gr, .ref (A 6), .ref (A 7), .ref (A 8), .ref (A 9), .ref (A 10), .ref (A 11), .ref (A 12), .int M.pg, .int M.bg, .int M.io, .int M.be, .int M.le, .long M.ln, .long M.dp, .ref (A 13), .long M.sh]) := mf_at hA9 (M.si 0 1) 0 (by decide)
    refine pz_get (ci := 10) (C := "PageMakerModel") (T := T_MD) (N := 26) hx hb htb in_MD hown hK hP (lm_in (by decide)) h_4 rfl 0 (by decide) (htb _ tw_682) (fun _ h9 => h9) rfl d_MD_penalty_36 ?_
    refine lv_if_le (tgt := 46) hx hb d_MD_penalty_39 (by decide) (fun c0 => absurd c0 (by decide)) (fun _ => ?_)
    refine lv_iconst (v := 0) hx hb d_MD_penalty_42 (by decide) ?_
    refine lv_goto (tgt := 55) hx hb d_MD_penalty_43 (by decide) ?_
    exact pz_iret hx hb hr rfl hlocks hK hP hD hS (Nat.le_of_ble_eq_true rfl) (Nat.le_of_ble_eq_true rfl) ⟨rfl, rfl⟩ d_MD_penalty_55
  · refine lv_iload_n hx hb d_MD_penalty_7 rfl (lv_at hl 1 rfl) ?_
    refine lv_ldc (v := 100000) hx hb hown (htb _ tw_830) d_MD_penalty_8 ?_
    refine lv_icmp_le (tgt := 17) hx hb d_MD_penalty_10 (by decide) (fun c_5 => ?_) (fun c_5 => ?_)
    · exact absurd ⟨(i32_ge0 c_1), c_5⟩ hno9
    · refine lv_iconst (v := 1) hx hb d_MD_penalty_13 (by decide) ?_
      refine lv_goto (tgt := 32) hx hb d_MD_penalty_14 (by decide) ?_
      have h_6 : mF G A M (A 0) = .inr (10, [.int M.th, .ref (A 1), .ref (A 2), .ref (A 3), .ref (A 4), .ref (A 5), .int M.ct, .int M.ht, .int M.tp, .int M.gr, .ref (A 6), .ref (A 7), .ref (A 8), .ref (A 9), .ref (A 10), .ref (A 11), .ref (A 12), .int M.pg, .int M.bg, .int M.io, .int M.be, .int M.le, .long M.ln, .long M.dp, .ref (A 13), .long M.sh]) := mf_at hA9 M 0 (by decide)
      refine pz_put (ci := 10) (v := .int 1) (ty := .int) (C := "PageMakerModel") (T := T_MD) (N := 26) hx hb htb in_MD ty_MD to_MD nm_MD hown hK hP hD hS (lm_in (by decide)) h_6 rfl 0 (by decide) (htb _ tw_682) (fun _ h9 => h9) rfl rfl rfl rfl (Nat.le_of_ble_eq_true rfl) d_MD_penalty_32 (fun f7 H locs ef7 hP hD hS => ?_)
      have ef7 : f7 = va_up (mF G A M) (A 0) (.inr (10, [.int 1, .ref (A 1), .ref (A 2), .ref (A 3), .ref (A 4), .ref (A 5), .int M.ct, .int M.ht, .int M.tp, .int M.gr, .ref (A 6), .ref (A 7), .ref (A 8), .ref (A 9), .ref (A 10), .ref (A 11), .ref (A 12), .int M.pg, .int M.bg, .int M.io, .int M.be, .int M.le, .long M.ln, .long M.dp, .ref (A 13), .long M.sh])) := ef7
      have ef7 : f7 = mF G A (M.si 0 1) := ef7.trans (mf_o hA9 (M1 := M.si 0 1) rfl rfl)
      subst ef7
      refine lv_aload_n hx hb d_MD_penalty_35 rfl (lv_at hl 0 rfl) ?_
      have h_8 : mF G A (M.si 0 1) (A 0) = .inr (10, [.int 1, .ref (A 1), .ref (A 2), .ref (A 3), .ref (A 4), .ref (A 5), .int M.ct, .int M.ht, .int M.tp, .int M.gr, .ref (A 6), .ref (A 7), .ref (A 8), .ref (A 9), .ref (A 10), .ref (A 11), .ref (A 12), .int M.pg, .int M.bg, .int M.io, .int M.be, .int M.le, .long M.ln, .long M.dp, .ref (A 13), .long M.sh]) := mf_at hA9 (M.si 0 1) 0 (by decide)
      refine pz_get (ci := 10) (C := "PageMakerModel") (T := T_MD) (N := 26) hx hb htb in_MD hown hK hP (lm_in (by decide)) h_8 rfl 0 (by decide) (htb _ tw_682) (fun _ h9 => h9) rfl d_MD_penalty_36 ?_
      refine lv_if_le (tgt := 46) hx hb d_MD_penalty_39 (by decide) (fun c0 => absurd c0 (by decide)) (fun _ => ?_)
      refine lv_iconst (v := 0) hx hb d_MD_penalty_42 (by decide) ?_
      refine lv_goto (tgt := 55) hx hb d_MD_penalty_43 (by decide) ?_
      exact pz_iret hx hb hr rfl hlocks hK hP hD hS (Nat.le_of_ble_eq_true rfl) (Nat.le_of_ble_eq_true rfl) ⟨rfl, rfl⟩ d_MD_penalty_55
