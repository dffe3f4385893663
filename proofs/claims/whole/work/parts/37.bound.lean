/-! BOUNDS: lengths, badness, cost -/
def FV (F : Fr) : Prop := k_isZ F.1 ∧ k_isS F.2.1 ∧ k_isZ F.2.2
theorem k_isS_int {v : Int32} (h : k_isS v) : -(2 ^ 30) ≤ v.toInt ∧ v.toInt ≤ 2 ^ 30 := by
  obtain ⟨h1, h2⟩ := h
  rw [Int32.le_iff_toInt_le, show (-1073741823 : Int32).toInt = -1073741823 by decide] at h1
  rw [Int32.le_iff_toInt_le, show (1073741823 : Int32).toInt = 1073741823 by decide] at h2
  omega
def tl (n : Nat) (T : Tt) : Prop := (-((n + 1 : Nat) * 2 ^ 33 : Int) ≤ T.1.toInt ∧ T.1.toInt ≤ (n + 1 : Nat) * 2 ^ 33) ∧ -(2 ^ 31) ≤ T.2.1.toInt ∧ T.2.1.toInt ≤ 2 ^ 31
theorem i64_add {x y : Int64} (h1 : -(2 ^ 62) ≤ x.toInt ∧ x.toInt ≤ 2 ^ 62) (h2 : -(2 ^ 61) ≤ y.toInt ∧ y.toInt ≤ 2 ^ 61) : (x + y).toInt = x.toInt + y.toInt := by
  rw [Int64.toInt_add, Int.bmod_eq_of_le (by omega) (by omega)]
theorem i64_sub {x y : Int64} (h1 : -(2 ^ 62) ≤ x.toInt ∧ x.toInt ≤ 2 ^ 62) (h2 : -(2 ^ 61) ≤ y.toInt ∧ y.toInt ≤ 2 ^ 61) : (x - y).toInt = x.toInt - y.toInt := by
  rw [Int64.toInt_sub, Int.bmod_eq_of_le (by omega) (by omega)]
theorem k_dep_int {d g : Int32} (hd : k_isS d) (hg : k_isZ g) : -(2 ^ 30) ≤ (k_dep d g).toInt ∧ (k_dep d g).toInt ≤ 2 ^ 30 := by
  have h1 := k_isS_int hd
  have h2 := k_isZ_int hg
  unfold k_dep
  rw [Int32.toInt_toInt64]
  split <;> omega
theorem tl_add {n : Nat} {T : Tt} {it : It} {g : Int32} (hn : n ≤ 1000) (hg : k_isZ g) (hv : itV it) (h : tl n T) : tl (n + 1) (t_add it g T) := by
  obtain ⟨⟨h1, h2⟩, h3, h4⟩ := h
  have sp : ∀ w : Int32, k_isS w → tl (n + 1) ((T.1 + (T.2.1 + w.toInt64), 0, T.2.2.1, T.2.2.2) : Tt) := fun w hw => by
    have hw := k_isS_int hw
    have e1 : (T.2.1 + w.toInt64).toInt = T.2.1.toInt + w.toInt := by rw [i64_add (by omega) (by rw [Int32.toInt_toInt64]; omega), Int32.toInt_toInt64]
    have e2 : (T.1 + (T.2.1 + w.toInt64)).toInt = T.1.toInt + (T.2.1.toInt + w.toInt) := by rw [i64_add (by omega) (by rw [e1]; omega), e1]
    refine ⟨?_, ?_⟩
    · show _ ≤ (T.1 + (T.2.1 + w.toInt64)).toInt ∧ (T.1 + (T.2.1 + w.toInt64)).toInt ≤ _
      rw [e2]
      omega
    · show _ ≤ (0 : Int64).toInt ∧ (0 : Int64).toInt ≤ _
      rw [Int64.toInt_zero]
      omega
  rcases it with ⟨ia, ib⟩ | ⟨ia, ib, io, id9⟩ | ia | ia
  · have ha := k_isS_int hv.1
    have hb := k_isS_int hv.2
    have hd := k_dep_int hv.2 hg
    have e1 : (T.2.1 + ia.toInt64).toInt = T.2.1.toInt + ia.toInt := by rw [i64_add (by omega) (by rw [Int32.toInt_toInt64]; omega), Int32.toInt_toInt64]
    have e2 : (T.1 + (T.2.1 + ia.toInt64)).toInt = T.1.toInt + (T.2.1.toInt + ia.toInt) := by rw [i64_add (by omega) (by rw [e1]; omega), e1]
    have e3 : (ib.toInt64 - k_dep ib g).toInt = ib.toInt - (k_dep ib g).toInt := by rw [i64_sub (by rw [Int32.toInt_toInt64]; omega) (by omega), Int32.toInt_toInt64]
    have e4 : (T.1 + (T.2.1 + ia.toInt64) + (ib.toInt64 - k_dep ib g)).toInt = T.1.toInt + (T.2.1.toInt + ia.toInt) + (ib.toInt - (k_dep ib g).toInt) := by rw [i64_add (by rw [e2]; omega) (by rw [e3]; omega), e2, e3]
    refine ⟨?_, ?_⟩
    · show _ ≤ (T.1 + (T.2.1 + ia.toInt64) + (ib.toInt64 - k_dep ib g)).toInt ∧ (T.1 + (T.2.1 + ia.toInt64) + (ib.toInt64 - k_dep ib g)).toInt ≤ _
      rw [e4]
      omega
    · show _ ≤ (k_dep ib g).toInt ∧ (k_dep ib g).toInt ≤ _
      omega
  · exact sp ia hv.2.2.2
  · exact sp ia hv
  · exact ⟨⟨by show _ ≤ T.1.toInt; omega, by show T.1.toInt ≤ _; omega⟩, h3, h4⟩
theorem tl_top {its : List It} {F : Fr} {a : Nat} (hF : FV F) (hv : itsV its) : tl 0 (t_top its F a) := by
  have z : -(((0 + 1 : Nat) : Int) * 2 ^ 33) ≤ (0 : Int64).toInt ∧ (0 : Int64).toInt ≤ ((0 + 1 : Nat) : Int) * 2 ^ 33 := by decide
  have z2 : -(2 ^ 31) ≤ (0 : Int64).toInt ∧ (0 : Int64).toInt ≤ 2 ^ 31 := by decide
  unfold t_top
  split
  · next h d e =>
    have hh := k_isS_int (hv _ _ e).1
    have ht := k_isS_int hF.2.1
    refine ⟨?_, z2⟩
    show _ ≤ (0 + (0 + k_top F.2.1 h) : Int64).toInt ∧ (0 + (0 + k_top F.2.1 h) : Int64).toInt ≤ _
    rw [Int64.zero_add, Int64.zero_add]
    unfold k_top
    split
    · rw [i64_sub (by rw [Int32.toInt_toInt64]; omega) (by rw [Int32.toInt_toInt64]; omega), Int32.toInt_toInt64, Int32.toInt_toInt64]
      omega
    · exact z
  · exact ⟨z, z2⟩
theorem tl_list {its : List It} {F : Fr} {a : Nat} (hF : FV F) (hv : itsV its) (hn : its.length ≤ 512) (m : Nat) : a + m ≤ its.length → tl m (t_list its F a (a + m)) := by
  induction m with
  | zero =>
    intro _
    rw [t_list, Nat.add_zero, Nat.sub_self]
    exact tl_top hF hv
  | succ m ih =>
    intro h
    have hl : its[a + m]? = some its[a + m] := List.getElem?_eq_getElem (by omega)
    rw [← Nat.add_assoc, t_list_succ (by omega) hl]
    exact tl_add (by omega) hF.2.2 (hv _ _ hl) (ih (by omega))
theorem i64_div {x y : Int64} (hx : 0 ≤ x.toInt) (hx2 : x.toInt ≤ 2 ^ 62) (hy : 0 < y.toInt) : (x / y).toInt = x.toInt / y.toInt := by
  rw [Int64.toInt_div, Int.tdiv_eq_ediv_of_nonneg hx]
  have h1 : 0 ≤ x.toInt / y.toInt := Int.ediv_nonneg hx (by omega)
  have h2 : x.toInt / y.toInt ≤ x.toInt := Int.ediv_le_self _ hx
  exact Int.bmod_eq_of_le (by omega) (by omega)
theorem k_bad_r {t s : Int64} (h0 : 0 ≤ t.toInt) (h1 : t.toInt ≤ 2 ^ 62) (hs : 0 < s) : 0 ≤ (if t ≤ 7230584 then 297 * t / s else if 1663497 ≤ s then t / (s / 297) else t).toInt := by
  rw [Int64.lt_iff_toInt_lt, Int64.toInt_zero] at hs
  have c1 : (7230584 : Int64).toInt = 7230584 := by decide
  have c2 : (297 : Int64).toInt = 297 := by decide
  have c3 : (1663497 : Int64).toInt = 1663497 := by decide
  split
  · next c =>
    rw [Int64.le_iff_toInt_le, c1] at c
    have e1 : (297 * t).toInt = 297 * t.toInt := by rw [Int64.toInt_mul, c2, Int.bmod_eq_of_le (by omega) (by omega)]
    rw [i64_div (by rw [e1]; omega) (by rw [e1]; omega) hs, e1]
    exact Int.ediv_nonneg (by omega) (by omega)
  · split
    · next c =>
      rw [Int64.le_iff_toInt_le, c3] at c
      have hs2 : s.toInt < 2 ^ 63 := Int64.toInt_lt s
      have e1 : (s / 297).toInt = s.toInt / 297 := by
        rw [Int64.toInt_div, c2, Int.tdiv_eq_ediv_of_nonneg (by omega)]
        exact Int.bmod_eq_of_le (by omega) (by omega)
      rw [i64_div h0 h1 (by rw [e1]; omega), e1]
      exact Int.ediv_nonneg h0 (by omega)
    · exact h0
theorem k_cube {r : Int64} (h0 : 0 ≤ r.toInt) (h1 : r.toInt ≤ 1290) : 0 ≤ (((r * r * r + 131072) / 262144).toInt32).toInt ∧ (((r * r * r + 131072) / 262144).toInt32).toInt ≤ 10000 := by
  have a1 : 0 ≤ r.toInt * r.toInt := Int.mul_nonneg h0 h0
  have a2 : r.toInt * r.toInt ≤ 1290 * 1290 := Int.mul_le_mul h1 h1 h0 (by decide)
  have e1 : (r * r).toInt = r.toInt * r.toInt := by rw [Int64.toInt_mul, Int.bmod_eq_of_le (by omega) (by omega)]
  have a3 : 0 ≤ r.toInt * r.toInt * r.toInt := Int.mul_nonneg a1 h0
  have a4 : r.toInt * r.toInt * r.toInt ≤ 1290 * 1290 * 1290 := Int.mul_le_mul a2 h1 h0 (by decide)
  have e2 : (r * r * r).toInt = r.toInt * r.toInt * r.toInt := by rw [Int64.toInt_mul, e1, Int.bmod_eq_of_le (by omega) (by omega)]
  have c1 : (131072 : Int64).toInt = 131072 := by decide
  have c2 : (262144 : Int64).toInt = 262144 := by decide
  have e3 : (r * r * r + 131072).toInt = r.toInt * r.toInt * r.toInt + 131072 := by rw [Int64.toInt_add, e2, c1, Int.bmod_eq_of_le (by omega) (by omega)]
  have e4 : ((r * r * r + 131072) / 262144).toInt = (r.toInt * r.toInt * r.toInt + 131072) / 262144 := by rw [i64_div (by rw [e3]; omega) (by rw [e3]; omega) (by rw [c2]; decide), e3, c2]
  rw [Int64.toInt_toInt32, e4, Int.bmod_eq_of_le (by omega) (by omega)]
  omega
theorem k_bad_rng {t s : Int64} (h0 : 0 ≤ t.toInt) (h1 : t.toInt ≤ 2 ^ 62) : 0 ≤ (k_bad t s).toInt ∧ (k_bad t s).toInt ≤ 10000 := by
  have z : 0 ≤ (10000 : Int32).toInt ∧ (10000 : Int32).toInt ≤ 10000 := by decide
  unfold k_bad
  split
  · exact z
  · next hs =>
    have hs : 0 < s := by
      rw [Int64.le_iff_toInt_le, Int64.toInt_zero] at hs
      rw [Int64.lt_iff_toInt_lt, Int64.toInt_zero]
      omega
    have hr := k_bad_r h0 h1 hs
    revert hr
    generalize (if t ≤ 7230584 then 297 * t / s else if 1663497 ≤ s then t / (s / 297) else t) = r
    intro hr
    split
    · exact z
    · next c =>
      rw [Int64.lt_iff_toInt_lt, show (1290 : Int64).toInt = 1290 by decide] at c
      exact k_cube hr (by omega)
theorem k_boe_rng {g : Nat → Int64} {shr e : Int64} (h : -(2 ^ 61) ≤ e.toInt ∧ e.toInt ≤ 2 ^ 61) : 0 ≤ (k_boe g shr e).toInt ∧ (k_boe g shr e).toInt ≤ 1073741823 := by
  have z : 0 ≤ (0 : Int32).toInt ∧ (0 : Int32).toInt ≤ 1073741823 := by decide
  have z1 : 0 ≤ (1073741823 : Int32).toInt ∧ (1073741823 : Int32).toInt ≤ 1073741823 := by decide
  unfold k_boe
  split
  · next c =>
    rw [Int64.lt_iff_toInt_lt, Int64.toInt_zero] at c
    split
    · exact z
    · have := k_bad_rng (s := g 0) (show 0 ≤ e.toInt by omega) (by omega)
      omega
  · next c =>
    rw [Int64.lt_iff_toInt_lt, Int64.toInt_zero] at c
    split
    · exact z
    · split
      · exact z1
      · have e1 : (-e).toInt = -e.toInt := by rw [Int64.toInt_neg, Int.bmod_eq_of_le (by omega) (by omega)]
        have := k_bad_rng (t := -e) (s := shr) (by rw [e1]; omega) (by rw [e1]; omega)
        omega
theorem o_bad_rng {its : List It} {F : Fr} {a m b : Nat} (hF : FV F) (hv : itsV its) (hn : its.length ≤ 512) (h : a + m ≤ its.length) (T : Tt) : 0 ≤ (o_bad T F.1 (t_list its F a (a + m)).1).toInt ∧ (o_bad T F.1 (t_list its F a (a + m)).1).toInt ≤ 1073741823 := by
  obtain ⟨⟨h1, h2⟩, -⟩ := tl_list (a := a) hF hv hn m h
  have hh := k_isZ_int hF.1
  refine k_boe_rng ?_
  rw [i64_sub (by rw [Int32.toInt_toInt64]; omega) (by omega), Int32.toInt_toInt64]
  omega
theorem k_cost_le {b p : Int32} (hb : 0 ≤ b.toInt ∧ b.toInt ≤ 1073741823) (h1 : (-100000) ≤ p) (h2 : p < 10000) : k_cost b p ≤ 1073741823 := by
  rw [Int32.le_iff_toInt_le, show (-100000 : Int32).toInt = -100000 by decide] at h1
  rw [Int32.lt_iff_toInt_lt, show (10000 : Int32).toInt = 10000 by decide] at h2
  unfold k_cost
  rw [Int32.le_iff_toInt_le, show (1073741823 : Int32).toInt = 1073741823 by decide]
  split
  · decide
  · split
    · omega
    · split
      · next c =>
        rw [Int32.lt_iff_toInt_lt, show (10000 : Int32).toInt = 10000 by decide] at c
        rw [Int32.toInt_add, Int.bmod_eq_of_le (by omega) (by omega)]
        omega
      · decide
