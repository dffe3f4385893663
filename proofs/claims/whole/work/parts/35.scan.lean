/-! THE SCAN of a page, in pure words: from its first box at a, over the places a + j + 1 -/
/-- an item as the calls let it in -/
def itV (it : It) : Prop := match it with
  | .inl (h, d) => k_isS h ∧ k_isS d
  | .inr (.inl (w, s, o, d)) => k_isZ s ∧ k_isZ d ∧ vp_in o 4 ∧ k_isS w
  | .inr (.inr (.inl w)) => k_isS w
  | .inr (.inr (.inr p)) => (-100000) ≤ p ∧ p ≤ 100000
def itsV (its : List It) : Prop := ∀ (i : Nat) (it : It), its[i]? = some it → itV it
theorem itV_ok {it : It} (h : itV it) : itOK it := by
  rcases it with ⟨ia, ib⟩ | ⟨ia, ib, io, id9⟩ | ia | ia
  · exact trivial
  · exact h.2.2.1
  · exact trivial
  · exact trivial
/-- no total below 0, none above n sizes -/
def tn (n : Nat) (T : Tt) : Prop := (∀ j, j < 4 → 0 ≤ (T.2.2.2 j).toInt ∧ (T.2.2.2 j).toInt ≤ n * 2 ^ 30) ∧ 0 ≤ T.2.2.1.toInt ∧ T.2.2.1.toInt ≤ n * 2 ^ 30
theorem k_isZ_int {v : Int32} (h : k_isZ v) : 0 ≤ v.toInt ∧ v.toInt ≤ 2 ^ 30 := by
  obtain ⟨h1, h2⟩ := h
  rw [Int32.le_iff_toInt_le, Int32.toInt_zero] at h1
  rw [Int32.le_iff_toInt_le, show (1073741823 : Int32).toInt = 1073741823 by decide] at h2
  omega
theorem tn_plus {x : Int64} {v : Int32} {n : Nat} (hn : n ≤ 1000) (hx : 0 ≤ x.toInt ∧ x.toInt ≤ n * 2 ^ 30) (hv : 0 ≤ v.toInt ∧ v.toInt ≤ 2 ^ 30) : 0 ≤ (x + v.toInt64).toInt ∧ (x + v.toInt64).toInt ≤ (n + 1 : Nat) * 2 ^ 30 := by
  rw [Int64.toInt_add, Int32.toInt_toInt64, Int.bmod_eq_of_le (by omega) (by omega)]
  omega
theorem tn_mono {n : Nat} {T : Tt} (h : tn n T) : tn (n + 1) T := ⟨fun j hj => ⟨(h.1 j hj).1, by have := (h.1 j hj).2; omega⟩, h.2.1, by have := h.2.2; omega⟩
theorem tn_add {n : Nat} {T : Tt} {it : It} {g : Int32} (hn : n ≤ 1000) (hv : itV it) (h : tn n T) : tn (n + 1) (t_add it g T) := by
  rcases it with ⟨ia, ib⟩ | ⟨ia, ib, io, id9⟩ | ia | ia
  · exact tn_mono h
  · refine ⟨fun j hj => ?_, ?_⟩
    · show 0 ≤ (vp_updL T.2.2.2 io.toNatClampNeg (T.2.2.2 io.toNatClampNeg + ib.toInt64) j).toInt ∧ _
      unfold vp_updL
      by_cases e : j = io.toNatClampNeg
      · rw [if_pos e]
        have h5 : io.toNatClampNeg < 4 := Nat.not_le.mp fun q => hv.2.2.1 (Or.inr q)
        refine ⟨(tn_plus hn (h.1 _ h5) (k_isZ_int hv.1)).1, ?_⟩
        show (vp_updL T.2.2.2 io.toNatClampNeg (T.2.2.2 io.toNatClampNeg + ib.toInt64) j).toInt ≤ _
        unfold vp_updL
        rw [if_pos e]
        exact (tn_plus hn (h.1 _ h5) (k_isZ_int hv.1)).2
      · rw [if_neg e]
        refine ⟨(h.1 j hj).1, ?_⟩
        show (vp_updL T.2.2.2 io.toNatClampNeg (T.2.2.2 io.toNatClampNeg + ib.toInt64) j).toInt ≤ _
        unfold vp_updL
        rw [if_neg e]
        have := (h.1 j hj).2
        omega
    · exact tn_plus hn h.2 (k_isZ_int hv.2.1)
  · exact tn_mono h
  · exact tn_mono h
theorem t_run_snoc {its : List It} {g : Int32} : ∀ (m k : Nat) (T : Tt) (it : It), its[k + m]? = some it → t_run its g k (m + 1) T = t_add it g (t_run its g k m T) := by
  intro m
  induction m with
  | zero => intro k T it h; exact t_run_succ h
  | succ m ih =>
    intro k T it h
    show t_run its g (k + 1) (m + 1) _ = t_add it g (t_run its g (k + 1) m _)
    exact ih (k + 1) _ it (by rw [← h]; congr 1; omega)
theorem t_list_succ {its : List It} {F : Fr} {a b : Nat} {it : It} (hab : a ≤ b) (h : its[b]? = some it) : t_list its F a (b + 1) = t_add it F.2.2 (t_list its F a b) := by
  rw [t_list, t_list, show b + 1 - a = (b - a) + 1 by omega]
  exact t_run_snoc (b - a) a _ it (by rw [← h]; congr 1; omega)
theorem tn_top {its : List It} {F : Fr} {a : Nat} : tn 0 (t_top its F a) := by
  have z : 0 ≤ (0 : Int64).toInt ∧ (0 : Int64).toInt ≤ ((0 : Nat) : Int) * 2 ^ 30 := by decide
  unfold t_top
  split
  · exact ⟨fun j _ => z, z⟩
  · exact ⟨fun j _ => z, z⟩
theorem tn_list {its : List It} {F : Fr} {a : Nat} (hv : itsV its) (hn : its.length ≤ 512) (m : Nat) : a + m ≤ its.length → tn m (t_list its F a (a + m)) := by
  induction m with
  | zero =>
    intro _
    rw [t_list, Nat.add_zero, Nat.sub_self]
    exact tn_top
  | succ m ih =>
    intro h
    have hl : its[a + m]? = some its[a + m] := List.getElem?_eq_getElem (by omega)
    rw [← Nat.add_assoc, t_list_succ (by omega) hl]
    exact tn_add (by omega) (hv _ _ hl) (ih (by omega))
theorem nn_of {M : MS} {T : Tt} {n : Nat} (hT : TM M T) (h : tn n T) (hn : n ≤ 512) : NN M := by
  obtain ⟨-, -, h3, h4⟩ := hT
  refine ⟨fun j hj => ?_, ?_⟩
  · rw [h4 j hj]
    have := h.1 j hj
    omega
  · rw [h3]
    exact h.2.1
/-- the model's badness is the class's -/
theorem ob_tm {M : MS} {T : Tt} {h : Int32} (hT : TM M T) : k_boe M.g M.sh (h.toInt64 - M.ln) = o_bad T h T.1 := by
  obtain ⟨h1, h2, h3, h4⟩ := hT
  have e0 := h4 0 (by decide)
  have e1 := h4 1 (by decide)
  have e2 := h4 2 (by decide)
  have e3 := h4 3 (by decide)
  unfold o_bad k_boe k_go
  rw [h1, h3, e0, e1, e2, e3]
/-- the page behind the looks at the places up to a + j -/
def sP (its : List It) (F : Fr) (a : Nat) : Nat → Op
  | 0 => (nI a, (t_top its F a).1, (-1), 1073741823, 1073741823, (-1))
  | j + 1 => (nI a, (t_list its F a (a + j + 1)).1, (match its[a + j + 1]? with
    | some it => c_look (sP its F a j) (t_list its F a (a + j + 1)) F (a + j + 1) it its[a + j]?
    | none => (false, sP its F a j)).2.2.2)
def sL (its : List It) (F : Fr) (a j : Nat) : Bool × Op := match its[a + j + 1]? with
  | some it => c_look (sP its F a j) (t_list its F a (a + j + 1)) F (a + j + 1) it its[a + j]?
  | none => (false, sP its F a j)
theorem sP_succ (its : List It) (F : Fr) (a j : Nat) : sP its F a (j + 1) = (nI a, (t_list its F a (a + j + 1)).1, (sL its F a j).2.2.2) := rfl
theorem sP_1 (its : List It) (F : Fr) (a j : Nat) : (sP its F a j).1 = nI a := by
  cases j <;> rfl
theorem sL_eq {its : List It} {F : Fr} {a j : Nat} {it : It} (h : its[a + j + 1]? = some it) : sL its F a j = c_look (sP its F a j) (t_list its F a (a + j + 1)) F (a + j + 1) it its[a + j]? := by
  rw [sL, h]
theorem o_at_1 (P : Op) (T : Tt) (F : Fr) (pl : Int32) (len : Int64) (p : Int32) : (o_at P T F pl len p).2.1 = P.1 ∧ (o_at P T F pl len p).2.2.1 = P.2.1 := by
  unfold o_at o_best o_end
  split <;> split <;> exact ⟨rfl, rfl⟩
theorem c_look_1 (P : Op) (T : Tt) (F : Fr) (k : Nat) (it : It) (pv : Option It) : (c_look P T F k it pv).2.1 = P.1 := by
  unfold c_look
  repeat' split
  all_goals first | rfl | exact (o_at_1 _ _ _ _ _ _).1
theorem sL_1 (its : List It) (F : Fr) (a j : Nat) : (sL its F a j).2.1 = nI a := by
  unfold sL
  split
  · exact (c_look_1 _ _ _ _ _ _).trans (sP_1 its F a j)
  · exact sP_1 its F a j
theorem nI_nm {a : Nat} (h : a < 2 ^ 31) : ¬ nI a = (-1) := fun e => by
  have h1 := nI_toInt h
  rw [e, show ((-1 : Int32)).toInt = -1 by decide] at h1
  omega
