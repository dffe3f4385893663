/-! THE INVARIANT of the class's state, and its loop -/
/-- the best break so far, of a page from a, among the places up to a + j -/
def BS (its : List It) (F : Fr) (a j : Nat) (P : Op) : Prop := ∃ b, P.2.2.1 = nI b ∧ a < b ∧ b ≤ a + j ∧ P.2.2.2.2.1 = o_bad (t_list its F a b) F.1 (t_list its F a b).1
def BQ (its : List It) (F : Fr) (a j : Nat) (P : Op) : Prop := (P.2.2.1 = (-1) ∧ P.2.2.2.1 = 1073741823) ∨ BS its F a j P
theorem bs_mono {its : List It} {F : Fr} {a j : Nat} {P Q : Op} (e : Q.2.2 = P.2.2) (h : BS its F a j P) : BS its F a (j + 1) Q := by
  obtain ⟨b, h1, h2, h3, h4⟩ := h
  exact ⟨b, by rw [e]; exact h1, h2, by omega, by rw [e]; exact h4⟩
theorem bq_mono {its : List It} {F : Fr} {a j : Nat} {P Q : Op} (e : Q.2.2 = P.2.2) (h : BQ its F a j P) : BQ its F a (j + 1) Q := by
  rcases h with ⟨h1, h2⟩ | h
  · exact Or.inl ⟨by rw [e]; exact h1, by rw [e]; exact h2⟩
  · exact Or.inr (bs_mono e h)
theorem bs_at {its : List It} {F : Fr} {a j b : Nat} {P : Op} {T : Tt} {len : Int64} {p : Int32} (h : BQ its F a j P) (h1 : a < b) (h2 : b ≤ a + (j + 1)) (hbd : o_bad T F.1 len = o_bad (t_list its F a b) F.1 (t_list its F a b).1) (hc : k_cost (o_bad T F.1 len) p ≤ 1073741823) : BS its F a (j + 1) (o_at P T F (nI b) len p).2 := by
  have key : BS its F a (j + 1) (o_best P (nI b) (o_bad T F.1 len) (k_cost (o_bad T F.1 len) p)) := by
    unfold o_best
    split
    · exact ⟨b, rfl, h1, h2, hbd⟩
    · next c =>
      rcases h with ⟨-, e2⟩ | h
      · rw [e2] at c
        exact absurd hc c
      · exact bs_mono rfl h
  unfold o_at
  split
  · obtain ⟨b9, k1, k2, k3, k4⟩ := key
    exact ⟨b9, k1, k2, k3, k4⟩
  · exact key
theorem nI_m1 (j : Nat) : nI (j + 1 - 1) = nI j := by rw [Nat.add_sub_cancel]
/-- what a look does to the best break -/
theorem sL_bq {its : List It} {F : Fr} {a j : Nat} (hF : FV F) (hv : itsV its) (hn : its.length ≤ 512) (hj : a + j + 1 < its.length) (hbox : ∃ b0 b1, its[a]? = some (.inl (b0, b1))) (h : BQ its F a j (sP its F a j)) (hlb : ∀ i, j = i + 1 → (sP its F a j).2.1 = (t_list its F a (a + j)).1) : BQ its F a (j + 1) (sL its F a j).2 ∧ ((sL its F a j).1 = true → BS its F a (j + 1) (sL its F a j).2) := by
  obtain ⟨it, hi⟩ : ∃ it, its[a + j + 1]? = some it := ⟨_, List.getElem?_eq_getElem hj⟩
  obtain ⟨it1, hi1⟩ : ∃ it, its[a + j]? = some it := ⟨_, List.getElem?_eq_getElem (by omega)⟩
  have hnm : ¬ (sP its F a j).1 = (-1) := by rw [sP_1]; exact nI_nm (by omega)
  have no : ∀ X : Bool × Op, X = (false, sP its F a j) → BQ its F a (j + 1) X.2 ∧ (X.1 = true → BS its F a (j + 1) X.2) := fun X e => by
    rw [e]
    exact ⟨bq_mono rfl h, fun h9 => absurd h9 Bool.false_ne_true⟩
  have yes : ∀ (b : Nat) (len : Int64) (p : Int32), a < b → b ≤ a + (j + 1) → o_bad (t_list its F a (a + j + 1)) F.1 len = o_bad (t_list its F a b) F.1 (t_list its F a b).1 → (-100000) ≤ p → p < 10000 → BQ its F a (j + 1) (o_at (sP its F a j) (t_list its F a (a + j + 1)) F (nI b) len p).2 ∧ ((o_at (sP its F a j) (t_list its F a (a + j + 1)) F (nI b) len p).1 = true → BS its F a (j + 1) (o_at (sP its F a j) (t_list its F a (a + j + 1)) F (nI b) len p).2) := fun b len p h1 h2 hbd p1 p2 => by
    have hr : 0 ≤ (o_bad (t_list its F a b) F.1 (t_list its F a b).1).toInt ∧ (o_bad (t_list its F a b) F.1 (t_list its F a b).1).toInt ≤ 1073741823 := by
      have h9 := o_bad_rng (b := 0) (a := a) (m := b - a) hF hv hn (by omega) (t_list its F a b)
      rw [show a + (b - a) = b by omega] at h9
      exact h9
    have k := bs_at (T := t_list its F a (a + j + 1)) (len := len) (p := p) h h1 h2 hbd (k_cost_le (by rw [hbd]; exact hr) p1 p2)
    exact ⟨Or.inr k, fun _ => k⟩
  have e := sL_eq (F := F) hi
  rw [hi1] at e
  rw [e]
  rcases it with ⟨ia, ib⟩ | ⟨ia, ib, io, id9⟩ | ia | ia
  · exact no _ (if_neg hnm)
  · rcases it1 with ⟨ja, jb⟩ | ⟨ja, jb, jo, jd9⟩ | ja | ja
    · rw [show c_look (sP its F a j) (t_list its F a (a + j + 1)) F (a + j + 1) (.inr (.inl (ia, ib, io, id9))) (some (.inl (ja, jb))) = o_at (sP its F a j) (t_list its F a (a + j + 1)) F (nI (a + j + 1)) (t_list its F a (a + j + 1)).1 0 from if_neg hnm]
      exact yes (a + j + 1) _ 0 (by omega) (by omega) rfl (by decide) (by decide)
    · exact no _ (if_neg hnm)
    · rw [show c_look (sP its F a j) (t_list its F a (a + j + 1)) F (a + j + 1) (.inr (.inl (ia, ib, io, id9))) (some (.inr (.inr (.inl ja)))) = o_at (sP its F a j) (t_list its F a (a + j + 1)) F (nI (a + j + 1 - 1)) (sP its F a j).2.1 0 from if_neg hnm, nI_m1]
      cases j with
      | zero =>
        obtain ⟨b0, b1, hbx⟩ := hbox
        exact absurd (hi1.symm.trans hbx) (by intro h9; cases h9)
      | succ i =>
        rw [hlb i rfl]
        refine yes (a + (i + 1)) _ 0 (by omega) (by omega) ?_ (by decide) (by decide)
        rw [t_list_succ (show a ≤ a + (i + 1) by omega) hi1]
        exact o_bad_g rfl rfl
    · exact no _ (if_neg hnm)
  · exact no _ (if_neg hnm)
  · by_cases hp : ia < 10000
    · rw [show c_look (sP its F a j) (t_list its F a (a + j + 1)) F (a + j + 1) (.inr (.inr (.inr ia))) (some it1) = o_at (sP its F a j) (t_list its F a (a + j + 1)) F (nI (a + j + 1)) (t_list its F a (a + j + 1)).1 ia from (if_neg hnm).trans (if_pos hp)]
      exact yes (a + j + 1) _ ia (by omega) (by omega) rfl (hv _ _ hi).1 hp
    · exact no _ ((if_neg hnm).trans (if_neg hp))
theorem sP_bq {its : List It} {F : Fr} {a : Nat} (hF : FV F) (hv : itsV its) (hn : its.length ≤ 512) (hbox : ∃ b0 b1, its[a]? = some (.inl (b0, b1))) (j : Nat) : a + j + 1 ≤ its.length → BQ its F a j (sP its F a j) := by
  induction j with
  | zero => exact fun _ => Or.inl ⟨rfl, rfl⟩
  | succ j ih =>
    intro h
    have k := (sL_bq hF hv hn (by omega) hbox (ih (by omega)) (fun i e => by subst e; rfl)).1
    rcases k with ⟨h1, h2⟩ | ⟨b, h1, h2, h3, h4⟩
    · exact Or.inl ⟨h1, h2⟩
    · exact Or.inr ⟨b, h1, h2, h3, h4⟩
theorem sL_end {its : List It} {F : Fr} {a j : Nat} (hF : FV F) (hv : itsV its) (hn : its.length ≤ 512) (hbox : ∃ b0 b1, its[a]? = some (.inl (b0, b1))) (hj : a + j + 1 < its.length) (he : (sL its F a j).1 = true) : BS its F a (j + 1) (sL its F a j).2 := (sL_bq hF hv hn hj hbox (sP_bq hF hv hn hbox j (by omega)) (fun i e => by subst e; rfl)).2 he
/-- an ended page is what its list says -/
def PG (its : List It) (pg : Fr × Pg) (a b : Nat) : Prop := a < b ∧ b ≤ its.length ∧ (∃ b0 b1, its[a]? = some (.inl (b0, b1))) ∧ pg.2.1 = nI a ∧ pg.2.2.1 = nI b ∧ pg.2.2.2.2.1 = o_bad (t_list its pg.1 a b) pg.1.1 (t_list its pg.1 a b).1 ∧ pg.2.2.2.2.2.2.1 = pg.1.1.toInt64 - (t_list its pg.1 a b).1 ∧ pg.2.2.2.2.2.2.2.1 = k_ord (t_list its pg.1 a b).2.2.2 (pg.1.1.toInt64 - (t_list its pg.1 a b).1) ∧ pg.2.2.2.2.2.2.2.2 = k_tot (t_list its pg.1 a b).2.2.2 (t_list its pg.1 a b).2.2.1 (pg.1.1.toInt64 - (t_list its pg.1 a b).1) ∧ FV pg.1
def PV (its : List It) (pgs : List (Fr × Pg)) : Prop := (∀ (i : Nat) (pg : Fr × Pg), pgs[i]? = some pg → ∃ a b, PG its pg a b) ∧ ∀ (i k : Nat) (p q : Fr × Pg), i < k → pgs[i]? = some p → pgs[k]? = some q → p.2.2.1 ≤ q.2.1
def LO (pgs : List (Fr × Pg)) (b : Nat) : Prop := pgs.length ≤ b ∧ ∀ (i : Nat) (pg : Fr × Pg), pgs[i]? = some pg → pg.2.2.1 ≤ nI b
/-- an open page, scanned up to the place a + j + 1 -/
def JO (its : List It) (pgs : List (Fr × Pg)) (F : Fr) (P : Op) (T : Tt) (a j : Nat) : Prop := (∃ b0 b1, its[a]? = some (.inl (b0, b1))) ∧ P = sP its F a j ∧ T = t_list its F a (a + j + 1) ∧ (∀ i, i < j → (sL its F a i).1 = false) ∧ LO pgs a ∧ FV F
def J (S : CS) (k : Nat) : Prop := itsV S.1 ∧ S.1.length ≤ 512 ∧ FV S.2.1 ∧ PV S.1 S.2.2.1 ∧ k ≤ S.1.length ∧ ((S.2.2.2.2.1 = op_0 ∧ S.2.2.2.2.2 = t_0 ∧ LO S.2.2.1 k) ∨ ∃ a j, k = a + j + 1 ∧ JO S.1 S.2.2.1 S.2.2.2.1 S.2.2.2.2.1 S.2.2.2.2.2 a j)
theorem lo_mono {pgs : List (Fr × Pg)} {b c : Nat} (h : LO pgs b) (hc : b ≤ c) (hn : c ≤ 512) : LO pgs c := by
  refine ⟨by have := h.1; omega, fun i pg hi => ?_⟩
  have h1 := h.2 i pg hi
  have h2 := nI_le hc (show c < 2 ^ 31 by omega)
  rw [Int32.le_iff_toInt_le] at *
  omega
theorem snoc_at {α : Type} {l : List α} {x y : α} {i : Nat} (h : (l ++ [x])[i]? = some y) : (i < l.length ∧ l[i]? = some y) ∨ (i = l.length ∧ y = x) := by
  by_cases hi : i < l.length
  · rw [List.getElem?_append_left hi] at h
    exact Or.inl ⟨hi, h⟩
  · have hl := (List.getElem?_eq_some_iff.mp h).1
    rw [List.length_append, List.length_singleton] at hl
    have e : i = l.length := by omega
    subst e
    rw [List.getElem?_append_right (Nat.le_refl _), Nat.sub_self] at h
    exact Or.inr ⟨rfl, (Option.some.inj h).symm⟩
/-- one round keeps the invariant; a page that ends may end -/
theorem c_lk_closed {S : CS} {k : Nat} {it : It} (h : S.2.2.2.2.1 = op_0) : c_lk S k it = (false, op_0) := by
  rw [c_lk, h]
  exact if_pos rfl
theorem c_lk_open {S : CS} {a j : Nat} {it : It} (hi : S.1[a + j + 1]? = some it) (hP : S.2.2.2.2.1 = sP S.1 S.2.2.2.1 a j) (hT : S.2.2.2.2.2 = t_list S.1 S.2.2.2.1 a (a + j + 1)) : c_lk S (a + j + 1) it = sL S.1 S.2.2.2.1 a j := by
  rw [sL_eq hi, c_lk, hP, hT]
  rfl
theorem c_step_scan {its : List It} {F9 : Fr} {pgs : List (Fr × Pg)} {F : Fr} {a j : Nat} {it : It} (ha : a < 2 ^ 31) (hi : its[a + j + 1]? = some it) (hno : (sL its F a j).1 = false) : c_step (its, F9, pgs, F, sP its F a j, t_list its F a (a + j + 1)) (a + j + 1) it = ((its, F9, pgs, F, sP its F a (j + 1), t_list its F a (a + (j + 1) + 1)), a + (j + 1) + 1) := by
  have e := c_lk_open (S := (its, F9, pgs, F, sP its F a j, t_list its F a (a + j + 1))) hi rfl rfl
  rw [c_step, e, if_neg (by show ¬ (sL its F a j).1 = true; rw [hno]; decide)]
  have hnm : ¬ (sL its F a j).2.1 = (-1) := by rw [sL_1]; exact nI_nm ha
  have e2 : c_take (sL its F a j).2 (t_list its F a (a + j + 1)) F F9 (a + j + 1) it = (F, ((sL its F a j).2.1, (t_list its F a (a + j + 1)).1, (sL its F a j).2.2.2), t_add it F.2.2 (t_list its F a (a + j + 1))) := if_neg hnm
  show ((its, F9, pgs, c_take (sL its F a j).2 (t_list its F a (a + j + 1)) F F9 (a + j + 1) it), _) = _
  rw [e2, sL_1, show a + (j + 1) + 1 = a + j + 1 + 1 from rfl, t_list_succ (by omega) hi]
  rfl
theorem c_step_open {its : List It} {F9 : Fr} {pgs : List (Fr × Pg)} {F : Fr} {k : Nat} {b0 b1 : Int32} (hi : its[k]? = some (.inl (b0, b1))) : c_step (its, F9, pgs, F, op_0, t_0) k (.inl (b0, b1)) = ((its, F9, pgs, F9, sP its F9 k 0, t_list its F9 k (k + 0 + 1)), k + 1) := by
  rw [c_step, c_lk_closed rfl]
  rw [show k + 0 + 1 = k + 1 from rfl, t_list_succ (Nat.le_refl k) hi, t_list, Nat.sub_self, t_run, sP, t_top, hi]
  rfl
theorem c_step_skip {its : List It} {F9 : Fr} {pgs : List (Fr × Pg)} {F : Fr} {k : Nat} {it : It} (hn : ∀ b0 b1, it ≠ .inl (b0, b1)) : c_step (its, F9, pgs, F, op_0, t_0) k it = ((its, F9, pgs, F, op_0, t_0), k + 1) := by
  rw [c_step, c_lk_closed rfl]
  rcases it with ⟨ia, ib⟩ | ⟨ia, ib, io, id9⟩ | ia | ia
  · exact absurd rfl (hn ia ib)
  · rfl
  · rfl
  · rfl
theorem c_eok_of {its : List It} {F9 : Fr} {pgs : List (Fr × Pg)} {F : Fr} {a j : Nat} {T : Tt} (hv : itsV its) (hn : its.length ≤ 512) (hbox : ∃ b0 b1, its[a]? = some (.inl (b0, b1))) (hF : FV F) (hlo : LO pgs a) (hj : a + j + 1 < its.length) (he : (sL its F a j).1 = true) : c_eok (its, F9, pgs, F, (sL its F a j).2, T) := by
  obtain ⟨b, h1, h2, h3, -⟩ := sL_end hF hv hn hbox hj he
  obtain ⟨b0, b1, hbx⟩ := hbox
  exact ⟨a, b, b0, b1, sL_1 its F a j, h1, hbx, by omega, by show b ≤ its.length; omega, by have := hlo.1; show pgs.length < 512; omega⟩
theorem pv_end {its : List It} {pgs : List (Fr × Pg)} {F : Fr} {a j b : Nat} (hv : itsV its) (hn : its.length ≤ 512) (hbox : ∃ b0 b1, its[a]? = some (.inl (b0, b1))) (hF : FV F) (hpv : PV its pgs) (hlo : LO pgs a) (hj : a + j + 1 < its.length) (hb : (sL its F a j).2.2.2.1 = nI b) (h2 : a < b) (h3 : b ≤ a + (j + 1)) (h4 : (sL its F a j).2.2.2.2.2.1 = o_bad (t_list its F a b) F.1 (t_list its F a b).1) : PV its (pgs ++ [(F, g_set (sL its F a j).2 F.1 (t_list its F a b))]) ∧ LO (pgs ++ [(F, g_set (sL its F a j).2 F.1 (t_list its F a b))]) b := by
  have hpg : PG its (F, g_set (sL its F a j).2 F.1 (t_list its F a b)) a b := ⟨h2, by omega, hbox, sL_1 its F a j, hb, h4, rfl, rfl, rfl, hF⟩
  refine ⟨⟨fun i pg hi => ?_, fun i k p q hik hp hq => ?_⟩, ?_, fun i pg hi => ?_⟩
  · rcases snoc_at hi with ⟨-, h⟩ | ⟨-, h⟩
    · exact hpv.1 i pg h
    · rw [h]
      exact ⟨a, b, hpg⟩
  · rcases snoc_at hq with ⟨hk, hq⟩ | ⟨hk, hq⟩
    · rcases snoc_at hp with ⟨-, hp⟩ | ⟨hi, hp⟩
      · exact hpv.2 i k p q hik hp hq
      · omega
    · rcases snoc_at hp with ⟨-, hp⟩ | ⟨hi, hp⟩
      · rw [hq]
        show p.2.2.1 ≤ (sL its F a j).2.1
        rw [sL_1]
        exact hlo.2 i p hp
      · omega
  · rw [List.length_append, List.length_singleton]
    have := hlo.1
    omega
  · rcases snoc_at hi with ⟨-, h⟩ | ⟨-, h⟩
    · exact (lo_mono hlo (Nat.le_of_lt h2) (by omega)).2 i pg h
    · rw [h]
      show (sL its F a j).2.2.2.1 ≤ nI b
      rw [hb]
      exact Int32.le_refl _
theorem j_step {S : CS} {k : Nat} {it : It} (h : J S k) (hi : S.1[k]? = some it) : ((c_lk S k it).1 = true → c_eok (c_put S (c_lk S k it).2)) ∧ J (c_step S k it).1 (c_step S k it).2 := by
  obtain ⟨its, F9, pgs, F, P, T⟩ := S
  obtain ⟨hv, hn, hF9, hpv, hk, h⟩ := h
  have hk1 : k < its.length := (List.getElem?_eq_some_iff.mp hi).1
  rcases h with ⟨hP, hT, hlo⟩ | ⟨a, j, rfl, hbox, hP, hT, hno, hlo, hF⟩
  · obtain rfl : P = op_0 := hP
    obtain rfl : T = t_0 := hT
    refine ⟨fun h9 => ?_, ?_⟩
    · rw [c_lk_closed rfl] at h9
      exact absurd h9 (by decide)
    · by_cases hb : ∃ b0 b1, it = .inl (b0, b1)
      · obtain ⟨b0, b1, rfl⟩ := hb
        rw [c_step_open hi]
        exact ⟨hv, hn, hF9, hpv, hk1, Or.inr ⟨k, 0, rfl, ⟨b0, b1, hi⟩, rfl, rfl, fun i h9 => absurd h9 (Nat.not_lt_zero _), hlo, hF9⟩⟩
      · rw [c_step_skip (fun b0 b1 e => hb ⟨b0, b1, e⟩)]
        exact ⟨hv, hn, hF9, hpv, hk1, Or.inl ⟨rfl, rfl, lo_mono hlo (Nat.le_succ k) (by have : its.length ≤ 512 := hn; omega)⟩⟩
  · obtain rfl : P = sP its F a j := hP
    obtain rfl : T = t_list its F a (a + j + 1) := hT
    have hn : its.length ≤ 512 := hn
    have e := c_lk_open (S := (its, F9, pgs, F, sP its F a j, t_list its F a (a + j + 1))) hi rfl rfl
    refine ⟨fun h9 => ?_, ?_⟩
    · rw [e] at h9 ⊢
      exact c_eok_of hv hn hbox hF hlo hk1 h9
    · by_cases he : (sL its F a j).1 = true
      · obtain ⟨b, h1, h2, h3, h4⟩ := sL_end hF hv hn hbox hk1 he
        have hb2 := pv_end hv hn hbox hF hpv hlo hk1 h1 h2 h3 h4
        have e1 : cN (c_lk (its, F9, pgs, F, sP its F a j, t_list its F a (a + j + 1)) (a + j + 1) it).2.1 = a := by rw [e, sL_1]; exact cN_nI (by omega)
        have e2 : cN (c_lk (its, F9, pgs, F, sP its F a j, t_list its F a (a + j + 1)) (a + j + 1) it).2.2.2.1 = b := by rw [e]; show cN (sL its F a j).2.2.2.1 = b; rw [h1]; exact cN_nI (by omega)
        rw [c_step, if_pos (by rw [e]; exact he), e1, e2, e]
        exact ⟨hv, hn, hF9, hb2.1, by show b ≤ its.length; omega, Or.inl ⟨rfl, rfl, hb2.2⟩⟩
      · rw [c_step_scan (by omega) hi (Bool.eq_false_iff.mpr he)]
        exact ⟨hv, hn, hF9, hpv, hk1, Or.inr ⟨a, j + 1, rfl, hbox, rfl, rfl, br_all hno (Bool.eq_false_iff.mpr he), hlo, hF⟩⟩
theorem j_ok (n : Nat) : ∀ (S : CS) (k : Nat), J S k → c_ok n S k := by
  induction n with
  | zero => intro S k _; exact trivial
  | succ n ih =>
    intro S k h
    rw [c_ok.eq_def]
    simp only []
    cases hi : S.1[k]? with
    | none => exact trivial
    | some it =>
      obtain ⟨h1, h2⟩ := j_step h hi
      exact ⟨h1, ih _ _ h2⟩
theorem j_run (n : Nat) : ∀ (S : CS) (k : Nat), J S k → J (c_run n S k).1 (c_run n S k).2 := by
  induction n with
  | zero => intro S k h; exact h
  | succ n ih =>
    intro S k h
    rw [c_run.eq_def]
    simp only []
    cases hi : S.1[k]? with
    | none => exact h
    | some it => exact ih _ _ (j_step h hi).2
/-- t rounds lead from one place to the other -/
def CR (S : CS) (k : Nat) (S' : CS) (k' t : Nat) : Prop := ∀ N, c_run (t + N) S k = c_run N S' k'
theorem cr_refl (S : CS) (k : Nat) : CR S k S k 0 := fun N => by rw [Nat.zero_add]
theorem cr_trans {S S1 S2 : CS} {k k1 k2 t t1 : Nat} (h : CR S k S1 k1 t) (h1 : CR S1 k1 S2 k2 t1) : CR S k S2 k2 (t + t1) := fun N => by
  rw [Nat.add_assoc, h, h1]
theorem cr_step {S : CS} {k : Nat} {it : It} (hi : S.1[k]? = some it) : CR S k (c_step S k it).1 (c_step S k it).2 1 := fun N => by
  rw [Nat.add_comm 1 N, c_run.eq_def]
  simp only [hi]
theorem cr_j {S S' : CS} {k k' t : Nat} (h : CR S k S' k' t) (hj : J S k) : J S' k' := by
  have h1 := h 0
  have h2 := j_run (t + 0) S k hj
  rw [h1] at h2
  exact h2
theorem c_run_none (n : Nat) {S : CS} {k : Nat} (h : S.1[k]? = none) : c_run n S k = (S, k) := by
  cases n with
  | zero => rfl
  | succ n =>
    rw [c_run.eq_def]
    simp only [h]
theorem cr_done {S S' : CS} {k k' t : Nat} (h : CR S k S' k' t) (ht : t ≤ 4004001) (hn : S'.1[k']? = none) : c_run 4004001 S k = (S', k') := by
  have h1 := h (4004001 - t)
  rw [show t + (4004001 - t) = 4004001 by omega, c_run_none _ hn] at h1
  exact h1
def nobox (its : List It) (b a : Nat) : Prop := ∀ i, b ≤ i → i < a → ∀ b0 b1, its[i]? ≠ some (.inl (b0, b1))
theorem cr_skips {its : List It} {F9 : Fr} {pgs : List (Fr × Pg)} {F : Fr} (b : Nat) (m : Nat) : b + m ≤ its.length → nobox its b (b + m) → CR (its, F9, pgs, F, op_0, t_0) b (its, F9, pgs, F, op_0, t_0) (b + m) m := by
  induction m with
  | zero => intro _ _; exact cr_refl _ _
  | succ m ih =>
    intro h hn
    have hi : its[b + m]? = some its[b + m] := List.getElem?_eq_getElem (by omega)
    have h1 := cr_step (S := (its, F9, pgs, F, op_0, t_0)) hi
    rw [c_step_skip (fun b0 b1 e => hn (b + m) (by omega) (by omega) b0 b1 (hi.trans (by rw [e])))] at h1
    exact cr_trans (ih (by omega) (fun i h1 h2 => hn i h1 (by omega))) h1
theorem cr_open {its : List It} {F9 : Fr} {pgs : List (Fr × Pg)} {F : Fr} {b a : Nat} {b0 b1 : Int32} (hba : b ≤ a) (hi : its[a]? = some (.inl (b0, b1))) (hn : nobox its b a) : CR (its, F9, pgs, F, op_0, t_0) b (its, F9, pgs, F9, sP its F9 a 0, t_list its F9 a (a + 0 + 1)) (a + 0 + 1) (a - b + 1) := by
  have ha : a < its.length := (List.getElem?_eq_some_iff.mp hi).1
  have h1 := cr_step (S := (its, F9, pgs, F, op_0, t_0)) hi
  rw [c_step_open hi] at h1
  have h2 := cr_skips (its := its) (F9 := F9) (pgs := pgs) (F := F) b (a - b) (by omega) (by rw [show b + (a - b) = a by omega]; exact hn)
  rw [show b + (a - b) = a by omega] at h2
  exact cr_trans h2 h1
theorem cr_scans {its : List It} {F9 : Fr} {pgs : List (Fr × Pg)} {F : Fr} {a j : Nat} (hn : its.length ≤ 512) (m : Nat) : a + j + 1 + m ≤ its.length → (∀ i, i < j + m → (sL its F a i).1 = false) → CR (its, F9, pgs, F, sP its F a j, t_list its F a (a + j + 1)) (a + j + 1) (its, F9, pgs, F, sP its F a (j + m), t_list its F a (a + (j + m) + 1)) (a + (j + m) + 1) m := by
  induction m with
  | zero => intro _ _; exact cr_refl _ _
  | succ m ih =>
    intro h hno
    have hi : its[a + (j + m) + 1]? = some its[a + (j + m) + 1] := List.getElem?_eq_getElem (by omega)
    have h1 := cr_step (S := (its, F9, pgs, F, sP its F a (j + m), t_list its F a (a + (j + m) + 1))) hi
    rw [c_step_scan (by omega) hi (hno (j + m) (by omega))] at h1
    exact cr_trans (ih (by omega) (fun i h9 => hno i (by omega))) h1
theorem cr_end {its : List It} {F9 : Fr} {pgs : List (Fr × Pg)} {F : Fr} {a j b : Nat} (hn : its.length ≤ 512) (hj : a + j + 1 < its.length) (he : (sL its F a j).1 = true) (hb : (sL its F a j).2.2.2.1 = nI b) (hb2 : b ≤ 512) : CR (its, F9, pgs, F, sP its F a j, t_list its F a (a + j + 1)) (a + j + 1) (its, F9, pgs ++ [(F, g_set (sL its F a j).2 F.1 (t_list its F a b))], F9, op_0, t_0) b 1 := by
  have hi : its[a + j + 1]? = some its[a + j + 1] := List.getElem?_eq_getElem hj
  have h1 := cr_step (S := (its, F9, pgs, F, sP its F a j, t_list its F a (a + j + 1))) hi
  have e := c_lk_open (S := (its, F9, pgs, F, sP its F a j, t_list its F a (a + j + 1))) hi rfl rfl
  have e1 : cN (c_lk (its, F9, pgs, F, sP its F a j, t_list its F a (a + j + 1)) (a + j + 1) its[a + j + 1]).2.1 = a := by rw [e, sL_1]; exact cN_nI (by omega)
  have e2 : cN (c_lk (its, F9, pgs, F, sP its F a j, t_list its F a (a + j + 1)) (a + j + 1) its[a + j + 1]).2.2.2.1 = b := by rw [e]; show cN (sL its F a j).2.2.2.1 = b; rw [hb]; exact cN_nI (by omega)
  rw [c_step, if_pos (by rw [e]; exact he), e1, e2, e] at h1
  exact h1
