/-! WHAT A PLACE DOES, in pure words; the representation under changes -/
/-- the number of a cell's kind -/
def tg (e : va_E) : Nat := match e with
  | .inr (k, _) => k
  | .inl (_, _, .inl _) => 100
  | .inl (_, _, .inr (.inl _)) => 101
  | .inl (_, _, .inr (.inr (.inl _))) => 102
  | .inl (_, _, .inr (.inr (.inr (.inl _)))) => 103
  | .inl (_, _, .inr (.inr (.inr (.inr _)))) => 104
theorem tg_ne {f : Nat → va_E} {a b i j : Nat} (ha : tg (f a) = i) (hb : tg (f b) = j) (h : i ≠ j) : a ≠ b := fun e => h (by rw [← ha, ← hb, e])
theorem tg_it (it : It) : 5 ≤ tg (itE it) ∧ tg (itE it) ≤ 8 := by
  rcases it with ⟨ia, ib⟩ | ⟨ia, ib, io, id9⟩ | ia | ia <;> exact ⟨Nat.le_of_ble_eq_true rfl, Nat.le_of_ble_eq_true rfl⟩
def op_0 : Op := ((-1), 0, (-1), 1073741823, 1073741823, (-1))
/-- takeIn: the open page's frame, itself, its totals -/
def c_take (P : Op) (T : Tt) (F F9 : Fr) (k : Nat) (it : It) : Fr × Op × Tt := if P.1 = (-1) then (match it with
    | .inl (a, b) => (F9, (nI k, (t_sp (k_top F9.2.1 a) T).1, P.2.2), t_add (.inl (a, b)) F9.2.2 (t_sp (k_top F9.2.1 a) T))
    | _ => (F, P, T)) else (F, (P.1, T.1, P.2.2), t_add it F.2.2 T)
/-- endOpenPage -/
def c_end (S : CS) (a b : Nat) : CS := (S.1, S.2.1, S.2.2.1 ++ [(S.2.2.2.1, g_set S.2.2.2.2.1 S.2.2.2.1.1 (t_list S.1 S.2.2.2.1 a b))], S.2.1, op_0, t_0)
/-- the look at the place k, the page behind it -/
def c_lk (S : CS) (k : Nat) (it : It) : Bool × Op := c_look S.2.2.2.2.1 S.2.2.2.2.2 S.2.2.2.1 k it (c_prev S.1 k)
def c_put (S : CS) (P : Op) : CS := (S.1, S.2.1, S.2.2.1, S.2.2.2.1, P, S.2.2.2.2.2)
def c_tk (S : CS) (k : Nat) (it : It) : CS := (S.1, S.2.1, S.2.2.1, c_take S.2.2.2.2.1 S.2.2.2.2.2 S.2.2.2.1 S.2.1 k it)
def cN (v : Int32) : Nat := v.toNatClampNeg
/-- one round of the loop at the place k -/
def c_step (S : CS) (k : Nat) (it : It) : CS × Nat := if (c_lk S k it).1 = true then (c_end (c_put S (c_lk S k it).2) (cN (c_lk S k it).2.1) (cN (c_lk S k it).2.2.2.1), cN (c_lk S k it).2.2.2.1) else (c_tk (c_put S (c_lk S k it).2) k it, k + 1)
/-- at most n rounds from the place k on -/
def c_run : Nat → CS → Nat → CS × Nat
  | 0, S, k => (S, k)
  | n + 1, S, k => match S.1[k]? with
    | none => (S, k)
    | some it => c_run n (c_step S k it).1 (c_step S k it).2
/-- a page may end -/
def c_eok (S : CS) : Prop := ∃ (a b : Nat) (b0 b1 : Int32), S.2.2.2.2.1.1 = nI a ∧ S.2.2.2.2.1.2.2.1 = nI b ∧ S.1[a]? = some (.inl (b0, b1)) ∧ a ≤ b ∧ b ≤ S.1.length ∧ S.2.2.1.length < 512
def c_ok : Nat → CS → Nat → Prop
  | 0, _, _ => True
  | n + 1, S, k => match S.1[k]? with
    | none => True
    | some it => ((c_lk S k it).1 = true → c_eok (c_put S (c_lk S k it).2)) ∧ c_ok n (c_step S k it).1 (c_step S k it).2
theorem xr_keep {L L1 : List Nat} {f f1 : Nat → va_E} {xs : List Nat} {its : List It} (h : XR L f xs its) (hL : ∀ z, z ∈ L → z ∈ L1) (hk : ∀ z, z ∈ L → 5 ≤ tg (f z) → tg (f z) ≤ 8 → f1 z = f z) : XR L1 f1 xs its := by
  refine ⟨h.1, fun i x it h1 h2 => ?_⟩
  obtain ⟨h3, h4, h5⟩ := h.2 i x it h1 h2
  have h6 := tg_it it
  rw [← h4] at h6
  exact ⟨hL _ h3, (hk x h3 h6.1 h6.2).trans h4, h5⟩
theorem yr_keep {L L1 : List Nat} {f f1 : Nat → va_E} {ys : List Nat} {pgs : List (Fr × Pg)} (h : YR L f ys pgs) (hL : ∀ z, z ∈ L → z ∈ L1) (hk : ∀ z, z ∈ L → tg (f z) = 9 ∨ tg (f z) = 1 → f1 z = f z) : YR L1 f1 ys pgs := by
  refine ⟨h.1, fun i y pg h1 h2 => ?_⟩
  obtain ⟨h3, z, h4, h5, h6⟩ := h.2 i y pg h1 h2
  exact ⟨hL _ h3, z, hL _ h4, (hk z h4 (Or.inr (by rw [h5]; rfl))).trans h5, (hk y h3 (Or.inl (by rw [h6]; rfl))).trans h6⟩
theorem lr_tg {G : gG} {L : List Nat} {f : Nat → va_E} {al d : Nat} {xs : List Nat} (h : LR G L f al d xs) : al ∈ L ∧ tg (f al) = 0 := by
  obtain ⟨mo, h1, h2, -⟩ := h
  exact ⟨h1, by rw [h2]; rfl⟩
theorem lr_keep2 {G : gG} {L L1 : List Nat} {f f1 : Nat → va_E} {al d : Nat} {xs : List Nat} (h : LR G L f al d xs) (hL : ∀ z, z ∈ L → z ∈ L1) (ha : f1 al = f al) (hd : xs ≠ [] → d ∈ L → tg (f d) = 104 → f1 d = f d) : LR G L1 f1 al d xs := by
  obtain ⟨mo, h1, h2, h3⟩ := h
  refine ⟨mo, hL _ h1, ha.trans h2, ?_⟩
  rcases h3 with h3 | ⟨hne, h3, cap, a, h4, h5⟩
  · exact Or.inl h3
  · exact Or.inr ⟨hne, hL _ h3, cap, a, (hd hne h3 (by rw [h4]; rfl)).trans h4, h5⟩
/-- the open page and its totals change -/
theorem rx_upd {G : gG} {L : List Nat} {f f1 : Nat → va_E} {pm al ad el ed fr op to sa fo fo1 : Nat} {xs ys : List Nat} {S : CS} {F1 : Fr} {P1 : Op} {T1 : Tt} (h : RX G L f pm al ad el ed fr op to sa fo xs ys S) (h1 : f1 op = opE to fo1 P1) (h2 : f1 to = toE sa T1) (h3 : f1 sa = saE G T1) (h4 : (fo1 = fo ∧ F1 = S.2.2.2.1) ∨ (fo1 = fr ∧ F1 = S.2.1)) (hk : ∀ z, z ≠ op → z ≠ to → z ≠ sa → f1 z = f z) : RX G L f1 pm al ad el ed fr op to sa fo1 xs ys (S.1, S.2.1, S.2.2.1, F1, P1, T1) := by
  obtain ⟨a1, a2, a3, a4, a5, a6, a7, a8, a9, b1, b2, b3, b4, b5, b6, b7, b8, b9⟩ := h
  have t1 : tg (f op) = 2 := by rw [b3]; rfl
  have t2 : tg (f to) = 3 := by rw [b5]; rfl
  have t3 : tg (f sa) = 101 := by rw [b7]; rfl
  have kp : ∀ z, tg (f z) ≠ 2 → tg (f z) ≠ 3 → tg (f z) ≠ 101 → f1 z = f z := fun z q1 q2 q3 => hk z (tg_ne rfl t1 q1) (tg_ne rfl t2 q2) (tg_ne rfl t3 q3)
  have kp2 : ∀ z j, tg (f z) = j → j ≠ 2 → j ≠ 3 → j ≠ 101 → f1 z = f z := fun z j e q1 q2 q3 => kp z (by rw [e]; exact q1) (by rw [e]; exact q2) (by rw [e]; exact q3)
  have hfr : f1 fr = frE S.2.1 := (kp2 fr 1 (by rw [b1]; rfl) (by decide) (by decide) (by decide)).trans b1
  refine ⟨a1, (kp2 pm 4 (by rw [a2]; rfl) (by decide) (by decide) (by decide)).trans a2, lr_keep2 a3 (fun _ h => h) (kp2 al 0 (lr_tg a3).2 (by decide) (by decide) (by decide)) (fun _ _ h => kp2 ad 104 h (by decide) (by decide) (by decide)), lr_keep2 a4 (fun _ h => h) (kp2 el 0 (lr_tg a4).2 (by decide) (by decide) (by decide)) (fun _ _ h => kp2 ed 104 h (by decide) (by decide) (by decide)), a5, a6, xr_keep a7 (fun _ h => h) (fun z _ q1 q2 => kp z (by omega) (by omega) (by omega)), yr_keep a8 (fun _ h => h) (fun z _ q => kp z (by omega) (by omega) (by omega)), a9, hfr, b2, h1, b4, h2, b6, h3, ?_, ?_⟩
  · rcases h4 with ⟨rfl, -⟩ | ⟨rfl, -⟩
    · exact b8
    · exact a9
  · rcases h4 with ⟨rfl, rfl⟩ | ⟨rfl, rfl⟩
    · exact (kp2 _ 1 (by rw [b9]; rfl) (by decide) (by decide) (by decide)).trans b9
    · exact hfr
