/-! THE NEAREST SHARE: the class's digits of sixteen bits, the model's of twenty -/
theorem i64_nn {x : Int64} (h : 0 ≤ x.toInt) : x.toInt = (x.toBitVec.toNat : Int) ∧ x.toBitVec.toNat < 2 ^ 63 := by
  have h1 : x.toInt = x.toBitVec.toInt := rfl
  rw [h1, BitVec.toInt_eq_toNat_cond] at h
  rw [h1, BitVec.toInt_eq_toNat_cond]
  have h2 := x.toBitVec.isLt
  split at h
  · next c => rw [if_pos c]; exact ⟨rfl, by omega⟩
  · omega
theorem i64_of {x : Int64} {n : Nat} (h : x.toBitVec.toNat = n) (hn : n < 2 ^ 63) : x.toInt = n := by
  have h1 : x.toInt = x.toBitVec.toInt := rfl
  rw [h1, BitVec.toInt_eq_toNat_cond, h, if_pos (by omega)]
theorem i64_and {y z : Int64} (n : Nat) (h : 0 ≤ y.toInt) (hz : z.toBitVec.toNat = 2 ^ n - 1) : (y &&& z).toInt = y.toInt % 2 ^ n := by
  obtain ⟨h1, h2⟩ := i64_nn h
  have h3 : (y &&& z).toBitVec.toNat = y.toBitVec.toNat % 2 ^ n := by
    rw [Int64.toBitVec_and, BitVec.toNat_and, hz, Nat.and_two_pow_sub_one_eq_mod]
  have h4 : y.toBitVec.toNat % 2 ^ n ≤ y.toBitVec.toNat := Nat.mod_le _ _
  rw [i64_of h3 (by omega), h1]
  push_cast
  rfl
theorem i64_ush {a : Int64} {s : UInt64} (n : Nat) (h : 0 ≤ a.toInt) (hs : s.toNat = n) (hn : n < 64) : (a.toUInt64 >>> s).toInt64.toInt = a.toInt / 2 ^ n := by
  obtain ⟨h1, h2⟩ := i64_nn h
  have h3 : (a.toUInt64 >>> s).toInt64.toBitVec.toNat = a.toBitVec.toNat / 2 ^ n := by
    show (a.toUInt64 >>> s).toNat = _
    rw [UInt64.toNat_shiftRight, hs, Nat.mod_eq_of_lt hn, Nat.shiftRight_eq_div_pow]
    rfl
  have h4 : a.toBitVec.toNat / 2 ^ n ≤ a.toBitVec.toNat := Nat.div_le_self _ _
  rw [i64_of h3 (by omega), h1]
  push_cast
  rfl
theorem i64_ssh {a s : Int64} (n : Nat) (h : 0 ≤ a.toInt) (hs : (s.toBitVec.smod 64).toNat = n) (hn : n < 64) : (a >>> s).toInt = a.toInt / 2 ^ n := by
  have h1 : (a >>> s).toInt = (a >>> s).toBitVec.toInt := rfl
  rw [h1, Int64.toBitVec_shiftRight, BitVec.sshiftRight_eq', hs, BitVec.toInt_sshiftRight, Int.shiftRight_eq_div_pow]
  rfl
theorem i64_shl (x : Int64) : x <<< ((16 : Int32).toInt64 &&& 63) = x * 65536 := by
  apply Int64.toBitVec_inj.mp
  rw [Int64.toBitVec_shiftLeft, Int64.toBitVec_mul]
  apply BitVec.eq_of_toNat_eq
  rw [BitVec.shiftLeft_eq', BitVec.toNat_shiftLeft, BitVec.toNat_mul, Nat.shiftLeft_eq]
  rfl
theorem i64_dv {x c : Int64} (hx : 0 ≤ x.toInt) (hc : 0 < c.toInt) : (x / c).toInt = x.toInt / c.toInt := by
  have h3 : x.toInt < 2 ^ 63 := Int64.toInt_lt x
  have h4 : x.toInt / c.toInt ≤ x.toInt := Int.ediv_le_self _ hx
  have h5 : 0 ≤ x.toInt / c.toInt := Int.ediv_nonneg hx (by omega)
  rw [Int64.toInt_div, Int.tdiv_eq_ediv_of_nonneg hx, Int.bmod_eq_of_le (by omega) (by omega)]
theorem i64_mul {x y : Int64} (h1 : 0 ≤ x.toInt * y.toInt) (h2 : x.toInt * y.toInt < 2 ^ 63) : (x * y).toInt = x.toInt * y.toInt := by
  rw [Int64.toInt_mul, Int.bmod_eq_of_le (by omega) (by omega)]
theorem n64_add {x y : Int64} (h1 : -(2 ^ 63) ≤ x.toInt + y.toInt) (h2 : x.toInt + y.toInt < 2 ^ 63) : (x + y).toInt = x.toInt + y.toInt := by
  rw [Int64.toInt_add, Int.bmod_eq_of_le (by omega) (by omega)]
theorem n64_sub {x y : Int64} (h1 : -(2 ^ 63) ≤ x.toInt - y.toInt) (h2 : x.toInt - y.toInt < 2 ^ 63) : (x - y).toInt = x.toInt - y.toInt := by
  rw [Int64.toInt_sub, Int.bmod_eq_of_le (by omega) (by omega)]
theorem i64_rem {x c : Int64} (hx : 0 ≤ x.toInt) (hc : 0 < c.toInt) : (k_rem x c).toInt = x.toInt % c.toInt := by
  have h3 : x.toInt < 2 ^ 63 := Int64.toInt_lt x
  have h1 := i64_dv hx hc
  have h4 : 0 ≤ x.toInt % c.toInt := Int.emod_nonneg _ (by omega)
  have h5 := Int.mul_ediv_add_emod x.toInt c.toInt
  have h6 : 0 ≤ x.toInt / c.toInt * c.toInt := Int.mul_nonneg (Int.ediv_nonneg hx (by omega)) (by omega)
  have h7 : x.toInt / c.toInt * c.toInt = c.toInt * (x.toInt / c.toInt) := Int.mul_comm _ _
  have h2 : (x / c * c).toInt = x.toInt / c.toInt * c.toInt := by
    rw [i64_mul (by rw [h1]; exact h6) (by rw [h1]; omega), h1]
  rw [k_rem, n64_sub (by rw [h2]; omega) (by rw [h2]; omega), h2]
  omega
/-- one digit more -/
theorem i64_step {r b d m : Int64} {M : Int} (hm : m.toInt = M) (hM0 : 0 < M) (hM : M ≤ 2 ^ 20) (hr0 : 0 ≤ r.toInt) (hr : r.toInt < 2 ^ 40) (hb0 : 0 ≤ b.toInt) (hb : b.toInt ≤ 2 ^ 40) (hd0 : 0 ≤ d.toInt) (hd : d.toInt < M) : (r * m + d * b).toInt = r.toInt * M + d.toInt * b.toInt ∧ 0 ≤ r.toInt * M + d.toInt * b.toInt := by
  have h1 : 0 ≤ r.toInt * M := Int.mul_nonneg hr0 (by omega)
  have h2 : r.toInt * M ≤ 2 ^ 40 * 2 ^ 20 := Int.mul_le_mul (by omega) hM (by omega) (by omega)
  have h3 : 0 ≤ d.toInt * b.toInt := Int.mul_nonneg hd0 hb0
  have h4 : d.toInt * b.toInt ≤ 2 ^ 20 * 2 ^ 40 := Int.mul_le_mul (by omega) hb (by omega) (by omega)
  have e1 : (r * m).toInt = r.toInt * M := by rw [i64_mul (by rw [hm]; exact h1) (by rw [hm]; omega), hm]
  have e2 : (d * b).toInt = d.toInt * b.toInt := i64_mul h3 (by omega)
  exact ⟨by rw [n64_add (by rw [e1, e2]; omega) (by rw [e1, e2]; omega), e1, e2], by omega⟩
theorem i64_eq {x : Int64} {n : Int} (h : x.toInt = n) : x = Int64.ofInt n := by
  rw [← h, Int64.ofInt_toInt]
theorem i64_four {q3 q2 q1 q0 m : Int64} {Q3 Q2 Q1 Q0 M Q : Int} (e3 : q3.toInt = Q3) (e2 : q2.toInt = Q2) (e1 : q1.toInt = Q1) (e0 : q0.toInt = Q0) (em : m.toInt = M) (h : (((0 * M + Q3) * M + Q2) * M + Q1) * M + Q0 = Q) : (((0 * m + q3) * m + q2) * m + q1) * m + q0 = Int64.ofInt Q := by
  rw [i64_eq e3, i64_eq e2, i64_eq e1, i64_eq e0, i64_eq em, ← h, Int64.ofInt_add, Int64.ofInt_mul, Int64.ofInt_add, Int64.ofInt_mul, Int64.ofInt_add, Int64.ofInt_mul, Int64.ofInt_add, Int64.ofInt_mul]
  rfl
/-- four digits of a, each times b and divided by c -/
theorem four_dig {a b c D3 D2 D1 D0 M : Int} (hc : 0 < c) (ha : a = ((D3 * M + D2) * M + D1) * M + D0) : 
    (((0 * M + D3 * b / c) * M + ((D3 * b % c) * M + D2 * b) / c) * M + ((((D3 * b % c) * M + D2 * b) % c) * M + D1 * b) / c) * M + (((((D3 * b % c) * M + D2 * b) % c) * M + D1 * b) % c * M + D0 * b) / c = a * b / c
    ∧ (((((D3 * b % c) * M + D2 * b) % c) * M + D1 * b) % c * M + D0 * b) % c = a * b % c := by
  obtain ⟨x3, h3⟩ : ∃ x3, x3 = D3 * b := ⟨_, rfl⟩
  obtain ⟨x2, h2⟩ : ∃ x2, x2 = (D3 * b % c) * M + D2 * b := ⟨_, rfl⟩
  obtain ⟨x1, h1⟩ : ∃ x1, x1 = (((D3 * b % c) * M + D2 * b) % c) * M + D1 * b := ⟨_, rfl⟩
  obtain ⟨x0, h0⟩ : ∃ x0, x0 = ((((D3 * b % c) * M + D2 * b) % c) * M + D1 * b) % c * M + D0 * b := ⟨_, rfl⟩
  rw [← h0, ← h1, ← h2, ← h3]
  rw [← h1] at h0
  rw [← h2] at h1
  rw [← h3] at h2
  have k3 := Int.mul_ediv_add_emod x3 c
  have k2 := Int.mul_ediv_add_emod x2 c
  have k1 := Int.mul_ediv_add_emod x1 c
  have k0 := Int.mul_ediv_add_emod x0 c
  have key : x0 % c + c * ((((0 * M + x3 / c) * M + x2 / c) * M + x1 / c) * M + x0 / c) = a * b := by
    have e3 : x3 % c = D3 * b - c * (x3 / c) := by omega
    have e2 : x2 % c = (D3 * b - c * (x3 / c)) * M + D2 * b - c * (x2 / c) := by rw [← e3]; omega
    have e1 : x1 % c = ((D3 * b - c * (x3 / c)) * M + D2 * b - c * (x2 / c)) * M + D1 * b - c * (x1 / c) := by rw [← e2]; omega
    have e0 : x0 % c = (((D3 * b - c * (x3 / c)) * M + D2 * b - c * (x2 / c)) * M + D1 * b - c * (x1 / c)) * M + D0 * b - c * (x0 / c) := by rw [← e1]; omega
    rw [e0, ha]
    grind
  have u := (Int.ediv_emod_unique (a := a * b) (b := c) (q := (((0 * M + x3 / c) * M + x2 / c) * M + x1 / c) * M + x0 / c) (r := x0 % c) hc).mpr ⟨key, Int.emod_nonneg _ (by omega), Int.emod_lt_of_pos _ hc⟩
  exact ⟨u.1.symm, u.2.symm⟩
theorem pd_val {b a r : Int64} {sh : Int32} (n : Nat) (hs : (sh.toInt64.toUInt64 &&& Int64.toUInt64 63).toNat = n) (hn : n < 64) (ha : 0 ≤ a.toInt) (hb0 : 0 ≤ b.toInt) (hb : b.toInt ≤ 2 ^ 40) (hr0 : 0 ≤ r.toInt) (hr : r.toInt < 2 ^ 40) : (k_pd b a sh r).toInt = r.toInt * 65536 + (a.toInt / 2 ^ n % 65536) * b.toInt ∧ 0 ≤ (k_pd b a sh r).toInt := by
  have h1 := i64_ush n ha hs hn
  have h2 : 0 ≤ a.toInt / 2 ^ n := Int.ediv_nonneg ha (Int.le_of_lt (Int.pow_pos (by decide)))
  have h3 := i64_and (y := (a.toUInt64 >>> (sh.toInt64.toUInt64 &&& Int64.toUInt64 63)).toInt64) (z := 65535) 16 (by rw [h1]; exact h2) (by decide)
  rw [h1] at h3
  have h4 : ((2 : Int) ^ 16) = 65536 := by decide
  rw [h4] at h3
  have h5 := Int.emod_nonneg (a.toInt / 2 ^ n) (show (65536 : Int) ≠ 0 by decide)
  have h6 := Int.emod_lt_of_pos (a.toInt / 2 ^ n) (show (0 : Int) < 65536 by decide)
  have h7 := i64_step (r := r) (b := b) (d := (a.toUInt64 >>> (sh.toInt64.toUInt64 &&& Int64.toUInt64 63)).toInt64 &&& 65535) (m := 65536) (M := 65536) (by decide) (by decide) (by decide) hr0 hr hb0 hb (by rw [h3]; exact h5) (by rw [h3]; exact h6)
  rw [k_pd, i64_shl, Int64.mul_comm b, h7.1, h3]
  rw [h3] at h7
  exact ⟨rfl, h7.2⟩
theorem nd_val {b a r : Int64} {sh : Int32} (n : Nat) (hs : ((sh.toInt64 &&& 63).toBitVec.smod 64).toNat = n) (hn : n < 64) (ha : 0 ≤ a.toInt) (hb0 : 0 ≤ b.toInt) (hb : b.toInt ≤ 2 ^ 40) (hr0 : 0 ≤ r.toInt) (hr : r.toInt < 2 ^ 40) : (k_nd a b sh r).toInt = r.toInt * 1048576 + (a.toInt / 2 ^ n % 1048576) * b.toInt ∧ 0 ≤ (k_nd a b sh r).toInt := by
  have h1 := i64_ssh n ha hs hn
  have h2 : 0 ≤ a.toInt / 2 ^ n := Int.ediv_nonneg ha (Int.le_of_lt (Int.pow_pos (by decide)))
  have h3 := i64_and (y := a >>> (sh.toInt64 &&& 63)) (z := 1048575) 20 (by rw [h1]; exact h2) (by decide)
  rw [h1] at h3
  have h4 : ((2 : Int) ^ 20) = 1048576 := by decide
  rw [h4] at h3
  have h5 := Int.emod_nonneg (a.toInt / 2 ^ n) (show (1048576 : Int) ≠ 0 by decide)
  have h6 := Int.emod_lt_of_pos (a.toInt / 2 ^ n) (show (0 : Int) < 1048576 by decide)
  have h7 := i64_step (r := r) (b := b) (d := (a >>> (sh.toInt64 &&& 63)) &&& 1048575) (m := 1048576) (M := 1048576) (by decide) (by decide) (by decide) hr0 hr hb0 hb (by rw [h3]; exact h5) (by rw [h3]; exact h6)
  rw [k_nd, h7.1, h3]
  rw [h3] at h7
  exact ⟨rfl, h7.2⟩
theorem rem_rng {x c : Int64} (hx : 0 ≤ x.toInt) (hc : 0 < c.toInt) (hc4 : c.toInt ≤ 2 ^ 40) : 0 ≤ (k_rem x c).toInt ∧ (k_rem x c).toInt < 2 ^ 40 := by
  rw [i64_rem hx hc]
  have h1 := Int.emod_nonneg x.toInt (show c.toInt ≠ 0 by omega)
  have h2 := Int.emod_lt_of_pos x.toInt hc
  omega
def k_rnd (a b c : Int) : Int64 := if c ≤ 2 * (a * b % c) then Int64.ofInt (a * b / c) + 1 else Int64.ofInt (a * b / c)
theorem prop_val {a b c : Int64} (ha : 0 ≤ a.toInt) (hb0 : 0 ≤ b.toInt) (hb : b.toInt ≤ 2 ^ 40) (hc : 0 < c.toInt) (hc4 : c.toInt ≤ 2 ^ 40) : k_prop b a c = k_rnd a.toInt b.toInt c.toInt := by
  have ha2 : a.toInt < 2 ^ 63 := Int64.toInt_lt a
  obtain ⟨p3, n3⟩ := pd_val (sh := 48) (r := 0) 48 (by decide) (by decide) ha hb0 hb (by decide) (by decide)
  obtain ⟨x3, hx3⟩ : ∃ x, x = k_pd b a 48 0 := ⟨_, rfl⟩
  rw [← hx3] at p3 n3
  have q3 := rem_rng n3 hc hc4
  obtain ⟨p2, n2⟩ := pd_val (sh := 32) (r := k_rem x3 c) 32 (by decide) (by decide) ha hb0 hb q3.1 q3.2
  obtain ⟨x2, hx2⟩ : ∃ x, x = k_pd b a 32 (k_rem x3 c) := ⟨_, rfl⟩
  rw [← hx2] at p2 n2
  have q2 := rem_rng n2 hc hc4
  obtain ⟨p1, n1⟩ := pd_val (sh := 16) (r := k_rem x2 c) 16 (by decide) (by decide) ha hb0 hb q2.1 q2.2
  obtain ⟨x1, hx1⟩ : ∃ x, x = k_pd b a 16 (k_rem x2 c) := ⟨_, rfl⟩
  rw [← hx1] at p1 n1
  have q1 := rem_rng n1 hc hc4
  obtain ⟨p0, n0⟩ := pd_val (sh := 0) (r := k_rem x1 c) 0 (by decide) (by decide) ha hb0 hb q1.1 q1.2
  obtain ⟨x0, hx0⟩ : ∃ x, x = k_pd b a 0 (k_rem x1 c) := ⟨_, rfl⟩
  rw [← hx0] at p0 n0
  have q0 := rem_rng n0 hc hc4
  rw [i64_rem n3 hc] at p2
  rw [i64_rem n2 hc] at p1
  rw [i64_rem n1 hc] at p0
  have e3 : x3.toInt = (a.toInt / 2 ^ 48 % 65536) * b.toInt := by rw [p3, Int64.toInt_zero]; omega
  rw [e3] at p2
  rw [p2] at p1
  rw [p1] at p0
  obtain ⟨f1, f2⟩ := four_dig (a := a.toInt) (b := b.toInt) (c := c.toInt) (D3 := a.toInt / 2 ^ 48 % 65536) (D2 := a.toInt / 2 ^ 32 % 65536) (D1 := a.toInt / 2 ^ 16 % 65536) (D0 := a.toInt / 2 ^ 0 % 65536) (M := 65536) hc (by omega)
  have hW := i64_four (q3 := x3 / c) (q2 := x2 / c) (q1 := x1 / c) (q0 := x0 / c) (m := 65536) (M := 65536) ((i64_dv n3 hc).trans (by rw [e3])) ((i64_dv n2 hc).trans (by rw [p2])) ((i64_dv n1 hc).trans (by rw [p1])) ((i64_dv n0 hc).trans (by rw [p0])) (by decide) f1
  have hr : (k_rem x0 c).toInt = a.toInt * b.toInt % c.toInt := by rw [i64_rem n0 hc, p0]; exact f2
  have h2r : (2 * k_rem x0 c).toInt = 2 * (a.toInt * b.toInt % c.toInt) := by
    rw [i64_mul (by rw [show (2 : Int64).toInt = 2 by decide]; omega) (by rw [show (2 : Int64).toInt = 2 by decide]; omega), hr]
    rfl
  have hle : c ≤ 2 * k_rem x0 c ↔ c.toInt ≤ 2 * (a.toInt * b.toInt % c.toInt) := by rw [Int64.le_iff_toInt_le, h2r]
  have hc0 : ¬ c ≤ 0 := by rw [Int64.le_iff_toInt_le, Int64.toInt_zero]; omega
  unfold k_prop k_rnd
  rw [if_neg hc0, ← hx3, ← hx2, ← hx1, ← hx0]
  simp only [i64_shl, hW, hle]
theorem near_val {a b c : Int64} (ha : 0 ≤ a.toInt) (hb0 : 0 ≤ b.toInt) (hb : b.toInt ≤ 2 ^ 40) (hc : 0 < c.toInt) (hc4 : c.toInt ≤ 2 ^ 40) : k_near a b c = k_rnd a.toInt b.toInt c.toInt := by
  have ha2 : a.toInt < 2 ^ 63 := Int64.toInt_lt a
  obtain ⟨p3, n3⟩ := nd_val (sh := 60) (r := 0) 60 (by decide) (by decide) ha hb0 hb (by decide) (by decide)
  obtain ⟨x3, hx3⟩ : ∃ x, x = k_nd a b 60 0 := ⟨_, rfl⟩
  rw [← hx3] at p3 n3
  have q3 := rem_rng n3 hc hc4
  obtain ⟨p2, n2⟩ := nd_val (sh := 40) (r := k_rem x3 c) 40 (by decide) (by decide) ha hb0 hb q3.1 q3.2
  obtain ⟨x2, hx2⟩ : ∃ x, x = k_nd a b 40 (k_rem x3 c) := ⟨_, rfl⟩
  rw [← hx2] at p2 n2
  have q2 := rem_rng n2 hc hc4
  obtain ⟨p1, n1⟩ := nd_val (sh := 20) (r := k_rem x2 c) 20 (by decide) (by decide) ha hb0 hb q2.1 q2.2
  obtain ⟨x1, hx1⟩ : ∃ x, x = k_nd a b 20 (k_rem x2 c) := ⟨_, rfl⟩
  rw [← hx1] at p1 n1
  have q1 := rem_rng n1 hc hc4
  obtain ⟨p0, n0⟩ := nd_val (sh := 0) (r := k_rem x1 c) 0 (by decide) (by decide) ha hb0 hb q1.1 q1.2
  obtain ⟨x0, hx0⟩ : ∃ x, x = k_nd a b 0 (k_rem x1 c) := ⟨_, rfl⟩
  rw [← hx0] at p0 n0
  have q0 := rem_rng n0 hc hc4
  rw [i64_rem n3 hc] at p2
  rw [i64_rem n2 hc] at p1
  rw [i64_rem n1 hc] at p0
  have e3 : x3.toInt = (a.toInt / 2 ^ 60 % 1048576) * b.toInt := by rw [p3, Int64.toInt_zero]; omega
  rw [e3] at p2
  rw [p2] at p1
  rw [p1] at p0
  obtain ⟨f1, f2⟩ := four_dig (a := a.toInt) (b := b.toInt) (c := c.toInt) (D3 := a.toInt / 2 ^ 60 % 1048576) (D2 := a.toInt / 2 ^ 40 % 1048576) (D1 := a.toInt / 2 ^ 20 % 1048576) (D0 := a.toInt / 2 ^ 0 % 1048576) (M := 1048576) hc (by omega)
  have hW := i64_four (q3 := x3 / c) (q2 := x2 / c) (q1 := x1 / c) (q0 := x0 / c) (m := 1048576) (M := 1048576) ((i64_dv n3 hc).trans (by rw [e3])) ((i64_dv n2 hc).trans (by rw [p2])) ((i64_dv n1 hc).trans (by rw [p1])) ((i64_dv n0 hc).trans (by rw [p0])) (by decide) f1
  have hr : (k_rem x0 c).toInt = a.toInt * b.toInt % c.toInt := by rw [i64_rem n0 hc, p0]; exact f2
  have hcr : (c - k_rem x0 c).toInt = c.toInt - a.toInt * b.toInt % c.toInt := by
    rw [n64_sub (by omega) (by omega), hr]
  have hle : c - k_rem x0 c ≤ k_rem x0 c ↔ c.toInt ≤ 2 * (a.toInt * b.toInt % c.toInt) := by
    rw [Int64.le_iff_toInt_le, hcr, hr]
    omega
  unfold k_near k_rnd k_w4 k_w3 k_w2 k_w1 k_n4 k_n3 k_n2 k_n1
  rw [← hx3, ← hx2, ← hx1, ← hx0]
  simp only [hW, hle]
theorem near_prop {a b c : Int64} (ha : 0 ≤ a.toInt) (hb0 : 0 ≤ b.toInt) (hb : b.toInt ≤ 2 ^ 40) (hc : 0 < c.toInt) (hc4 : c.toInt ≤ 2 ^ 40) : k_near a b c = k_prop b a c := (near_val ha hb0 hb hc hc4).trans (prop_val ha hb0 hb hc hc4).symm
