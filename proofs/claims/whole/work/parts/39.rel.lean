/-! THE RELATION of class and model; items that come in behind -/
def PGM (r : Nat → Nat → Int32) (pgs : List (Fr × Pg)) : Prop := ∀ (i : Nat) (pg : Fr × Pg), pgs[i]? = some pg → r 6 i = pg.1.1 ∧ r 7 i = pg.1.2.1 ∧ r 8 i = pg.1.2.2 ∧ r 9 i = pg.2.1 ∧ r 10 i = pg.2.2.1 ∧ r 11 i = pg.2.2.2.1 ∧ r 12 i = pg.2.2.2.2.2.1
def MB (M : MS) (its : List It) (F9 : Fr) (pgs : List (Fr × Pg)) : Prop := MIt M.r M.ct its ∧ M.ht = F9.1 ∧ M.tp = F9.2.1 ∧ M.gr = F9.2.2 ∧ M.pg = nI pgs.length ∧ PGM M.r pgs
/-- at rest: the page is closed, or open and scanned to the end -/
def MR (M : MS) (S : CS) : Prop := MB M S.1 S.2.1 S.2.2.1 ∧ ((S.2.2.2.2.1 = op_0 ∧ S.2.2.2.2.2 = t_0 ∧ M.io = 0 ∧ M.bg = nI S.1.length) ∨ ∃ a j, S.1.length = a + j + 1 ∧ JO S.1 S.2.2.1 S.2.2.2.1 S.2.2.2.2.1 S.2.2.2.2.2 a j ∧ M.io = 1 ∧ M.bg = nI a ∧ PR M.r S.2.2.1.length S.2.2.2.1 a ∧ M.be = S.2.2.2.2.1.2.2.1 ∧ M.le = S.2.2.2.2.1.2.2.2.1)
theorem up_at (g : Nat → Int32) (j : Nat) (x : Int32) : upd g j x j = x := if_pos rfl
theorem up_no {g : Nat → Int32} {i j : Nat} {x : Int32} (h : i ≠ j) : upd g j x i = g i := if_neg h
theorem mit_cg {r r1 : Nat → Nat → Int32} {c : Int32} {its : List It} (h : MIt r c its) (hk : ∀ j, 0 < j → j < 6 → r1 j = r j) : MIt r1 c its := by
  refine ⟨h.1, h.2.1, fun i it hi => ?_⟩
  obtain ⟨h1, h2⟩ := h.2.2 i it hi
  refine ⟨?_, h2⟩
  unfold itM at *
  rw [hk 1 (by decide) (by decide), hk 2 (by decide) (by decide), hk 3 (by decide) (by decide), hk 4 (by decide) (by decide), hk 5 (by decide) (by decide)]
  exact h1
theorem pgm_keep {r r1 : Nat → Nat → Int32} {pgs : List (Fr × Pg)} (h : PGM r pgs) (hk : ∀ c i, 5 < c → c < 13 → i < pgs.length → r1 c i = r c i) : PGM r1 pgs := by
  intro i pg hi
  have hl : i < pgs.length := (List.getElem?_eq_some_iff.mp hi).1
  rw [hk 6 i (by decide) (by decide) hl, hk 7 i (by decide) (by decide) hl, hk 8 i (by decide) (by decide) hl, hk 9 i (by decide) (by decide) hl, hk 10 i (by decide) (by decide) hl, hk 11 i (by decide) (by decide) hl, hk 12 i (by decide) (by decide) hl]
  exact h i pg hi
theorem pgm_snoc {r : Nat → Nat → Int32} {pgs : List (Fr × Pg)} {F : Fr} {g : Pg} {a : Nat} (h : PGM r pgs) (hp : PR r pgs.length F a) (h1 : g.1 = nI a) (h2 : r 10 pgs.length = g.2.1) (h3 : r 11 pgs.length = g.2.2.1) (h4 : r 12 pgs.length = g.2.2.2.2.1) : PGM r (pgs ++ [(F, g)]) := by
  intro i pg hi
  rcases snoc_at hi with ⟨-, h9⟩ | ⟨e, rfl⟩
  · exact h i pg h9
  · subst e
    exact ⟨hp.1, hp.2.1, hp.2.2.1, hp.2.2.2.trans h1.symm, h2, h3, h4⟩
/-! one more item behind: what was scanned stays -/
theorem get_pre {α : Type} {l : List α} {x : α} {i : Nat} (h : i < l.length) : (l ++ [x])[i]? = l[i]? := List.getElem?_append_left h
theorem t_run_pre {its : List It} {x : It} {g : Int32} (m : Nat) : ∀ (k : Nat) (T : Tt), k + m ≤ its.length → t_run (its ++ [x]) g k m T = t_run its g k m T := by
  induction m with
  | zero => intro k T _; rfl
  | succ m ih =>
    intro k T h
    rw [t_run, t_run, get_pre (by omega)]
    exact ih (k + 1) _ (by omega)
theorem t_top_pre {its : List It} {x : It} {F : Fr} {a : Nat} (h : a < its.length) : t_top (its ++ [x]) F a = t_top its F a := by
  rw [t_top, t_top, get_pre h]
theorem t_list_pre {its : List It} {x : It} {F : Fr} {a b : Nat} (ha : a < its.length) (hab : a ≤ b) (h : b ≤ its.length) : t_list (its ++ [x]) F a b = t_list its F a b := by
  rw [t_list, t_list, t_top_pre ha, t_run_pre (b - a) a _ (by omega)]
theorem sP_pre {its : List It} {x : It} {F : Fr} {a : Nat} (ha : a < its.length) (j : Nat) : a + j + 1 ≤ its.length → sP (its ++ [x]) F a j = sP its F a j := by
  induction j with
  | zero => intro _; rw [sP, sP, t_top_pre ha]
  | succ j ih =>
    intro h
    rw [sP, sP, t_list_pre ha (by omega) (by omega), get_pre (by omega), get_pre (by omega), ih (by omega)]
theorem sL_pre {its : List It} {x : It} {F : Fr} {a j : Nat} (h : a + j + 1 < its.length) : sL (its ++ [x]) F a j = sL its F a j := by
  rw [sL, sL, sP_pre (by omega) j (by omega), t_list_pre (by omega) (by omega) (by omega), get_pre h, get_pre (by omega)]
theorem pg_pre {its : List It} {x : It} {pg : Fr × Pg} {a b : Nat} (h : PG its pg a b) : PG (its ++ [x]) pg a b := by
  obtain ⟨h1, h2, ⟨b0, b1, h3⟩, h4, h5, h6, h7, h8, h9, h10⟩ := h
  have ha : a < its.length := by omega
  have e : t_list (its ++ [x]) pg.1 a b = t_list its pg.1 a b := t_list_pre ha (by omega) h2
  exact ⟨h1, by rw [List.length_append]; omega, ⟨b0, b1, (get_pre ha).trans h3⟩, h4, h5, by rw [e]; exact h6, by rw [e]; exact h7, by rw [e]; exact h8, by rw [e]; exact h9, h10⟩
theorem pv_pre {its : List It} {x : It} {pgs : List (Fr × Pg)} (h : PV its pgs) : PV (its ++ [x]) pgs := by
  refine ⟨fun i pg hi => ?_, h.2⟩
  obtain ⟨a, b, h1⟩ := h.1 i pg hi
  exact ⟨a, b, pg_pre h1⟩
theorem jo_pre {its : List It} {x : It} {pgs : List (Fr × Pg)} {F : Fr} {P : Op} {T : Tt} {a j : Nat} (h : JO its pgs F P T a j) (hl : its.length = a + j + 1) : JO (its ++ [x]) pgs F P T a j := by
  obtain ⟨⟨b0, b1, h1⟩, h2, h3, h4, h5, h6⟩ := h
  exact ⟨⟨b0, b1, (get_pre (by omega)).trans h1⟩, by rw [sP_pre (by omega) j (by omega)]; exact h2, by rw [t_list_pre (by omega) (by omega) (by omega)]; exact h3, fun i hi => by rw [sL_pre (by omega)]; exact h4 i hi, h5, h6⟩
theorem itsV_snoc {its : List It} {x : It} (h : itsV its) (hx : itV x) : itsV (its ++ [x]) := fun i it hi => by
  rcases snoc_at hi with ⟨-, h9⟩ | ⟨-, rfl⟩
  · exact h i it h9
  · exact hx
/-- the state with one item more, before it is looked at -/
def c_in (S : CS) (x : It) : CS := (S.1 ++ [x], S.2.1, S.2.2.1, S.2.2.2.1, S.2.2.2.2.1, S.2.2.2.2.2)
theorem j_in {S : CS} {x : It} (h : J S S.1.length) (hl : S.1.length < 512) (hx : itV x) : J (c_in S x) S.1.length := by
  obtain ⟨hv, hn, hF9, hpv, -, h⟩ := h
  refine ⟨itsV_snoc hv hx, by show (S.1 ++ [x]).length ≤ 512; rw [List.length_append, List.length_singleton]; omega, hF9, pv_pre hpv, by show _ ≤ (S.1 ++ [x]).length; rw [List.length_append]; omega, ?_⟩
  rcases h with h | ⟨a, j, h1, h2⟩
  · exact Or.inl h
  · exact Or.inr ⟨a, j, h1, jo_pre h2 h1⟩
theorem mit_snoc {r r1 : Nat → Nat → Int32} {c c1 : Int32} {its : List It} {x : It} (h : MIt r c its) (hl : its.length < 512) (hk : ∀ j i, 0 < j → j < 6 → i < its.length → r1 j i = r j i) (hc : c1 = nI (its.length + 1)) (hx : itM r1 its.length x) (hok : itOK x) : MIt r1 c1 (its ++ [x]) := by
  refine ⟨by rw [List.length_append]; exact hc, by rw [List.length_append, List.length_singleton]; omega, fun i it hi => ?_⟩
  rcases snoc_at hi with ⟨hlt, h9⟩ | ⟨e, rfl⟩
  · obtain ⟨h1, h2⟩ := h.2.2 i it h9
    refine ⟨?_, h2⟩
    unfold itM at *
    rw [hk 1 i (by decide) (by decide) hlt, hk 2 i (by decide) (by decide) hlt, hk 3 i (by decide) (by decide) hlt, hk 4 i (by decide) (by decide) hlt, hk 5 i (by decide) (by decide) hlt]
    exact h1
  · subst e
    exact ⟨hx, hok⟩
