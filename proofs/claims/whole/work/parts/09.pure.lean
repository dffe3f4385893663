/-! PURE PICTURES of the class's arithmetic, as its bytecode does it. -/
def k_bad (t s : Int64) : Int32 := if s ≤ 0 then 10000 else if 1290 < (if t ≤ 7230584 then 297 * t / s else if 1663497 ≤ s then t / (s / 297) else t) then 10000 else (((if t ≤ 7230584 then 297 * t / s else if 1663497 ≤ s then t / (s / 297) else t) * (if t ≤ 7230584 then 297 * t / s else if 1663497 ≤ s then t / (s / 297) else t) * (if t ≤ 7230584 then 297 * t / s else if 1663497 ≤ s then t / (s / 297) else t) + 131072) / 262144).toInt32
def k_cost (b p : Int32) : Int32 := if b = 1073741823 then 1073741823 else if p ≤ (-10000) then p else if b < 10000 then b + p else 100000
def k_go (g : Nat → Int64) : Int32 := if 0 < g 3 then 3 else if 0 < g 2 then 2 else if 0 < g 1 then 1 else 0
def k_boe (g : Nat → Int64) (shr e : Int64) : Int32 := if 0 < e then (if 0 < k_go g then 0 else k_bad e (g 0)) else if e = 0 then 0 else if shr < -e then 1073741823 else k_bad (-e) shr
/-- a digit of the amount at a shift, times the part, and the rest before it -/
def k_pd (part amount : Int64) (sh : Int32) (r : Int64) : Int64 := (r <<< ((16 : Int32).toInt64 &&& 63)) + part * ((amount.toUInt64 >>> (sh.toInt64.toUInt64 &&& Int64.toUInt64 63)).toInt64 &&& 65535)
def k_rem (d c : Int64) : Int64 := d - d / c * c
def k_prop (part amount total : Int64) : Int64 :=
  if total ≤ 0 then 0 else
    if total ≤ 2 * (k_rem (k_pd part amount 0 (k_rem (k_pd part amount 16 (k_rem (k_pd part amount 32 (k_rem (k_pd part amount 48 0) total)) total)) total)) total) then
      (((((0 <<< ((16 : Int32).toInt64 &&& 63)) + k_pd part amount 48 0 / total) <<< ((16 : Int32).toInt64 &&& 63) + k_pd part amount 32 (k_rem (k_pd part amount 48 0) total) / total) <<< ((16 : Int32).toInt64 &&& 63) + k_pd part amount 16 (k_rem (k_pd part amount 32 (k_rem (k_pd part amount 48 0) total)) total) / total) <<< ((16 : Int32).toInt64 &&& 63) + k_pd part amount 0 (k_rem (k_pd part amount 16 (k_rem (k_pd part amount 32 (k_rem (k_pd part amount 48 0) total)) total)) total) / total) + 1
    else
      (((((0 <<< ((16 : Int32).toInt64 &&& 63)) + k_pd part amount 48 0 / total) <<< ((16 : Int32).toInt64 &&& 63) + k_pd part amount 32 (k_rem (k_pd part amount 48 0) total) / total) <<< ((16 : Int32).toInt64 &&& 63) + k_pd part amount 16 (k_rem (k_pd part amount 32 (k_rem (k_pd part amount 48 0) total)) total) / total) <<< ((16 : Int32).toInt64 &&& 63) + k_pd part amount 0 (k_rem (k_pd part amount 16 (k_rem (k_pd part amount 32 (k_rem (k_pd part amount 48 0) total)) total)) total) / total)
def k_isS (v : Int32) : Prop := (-1073741823) ≤ v ∧ v ≤ 1073741823
def k_isZ (v : Int32) : Prop := 0 ≤ v ∧ v ≤ 1073741823
/-- an answer that is a boolean -/
def k_b (P : Prop) (r : Int32) : Prop := (r = 1 ∧ P) ∨ (r = 0 ∧ ¬ P)
theorem k_b1 {P : Prop} (h : P) : k_b P 1 := Or.inl ⟨rfl, h⟩
theorem k_b0 {P : Prop} (h : ¬ P) : k_b P 0 := Or.inr ⟨rfl, h⟩
theorem k_div {s : Int64} (h : 1663497 ≤ s) : ¬ s / 297 = 0 := by
  intro e
  rw [Int64.le_iff_toInt_le] at h
  have h0 : (1663497 : Int64).toInt = 1663497 := by decide
  have h1 : (297 : Int64).toInt = 297 := by decide
  have h2 := congrArg Int64.toInt e
  rw [Int64.toInt_div, h1, Int64.toInt_zero] at h2
  have h3 : s.toInt < 2 ^ 63 := Int64.toInt_lt s
  rw [Int.tdiv_eq_ediv_of_nonneg (by omega), Int.bmod_eq_of_le (by omega) (by omega)] at h2
  omega
theorem k_pos {s : Int64} (h : 0 < s) : ¬ s = 0 := fun e => by
  rw [e] at h
  exact absurd h (by decide)
theorem k_nle {s : Int64} (h : 0 < s) : ¬ s ≤ 0 := (pz_ltN h).2.2.2
theorem k_nlt {x y : Int64} (h : x ≤ y) : ¬ y < x := by
  rw [Int64.le_iff_toInt_le] at h
  rw [Int64.lt_iff_toInt_lt]
  omega
theorem k_nlt' {x y : Int64} (h : x < y) : ¬ y ≤ x := (pz_ltN h).2.2.2
