/-! THE MODEL: int rows over pools; its object and arrays as one state -/
section PZI
variable {p : Program} {l : Launch} {e : Env} {R : Room} {s : State} {m : MethodId} {args : Array Value} {below : List Frame} {meth : Method} {c : Code} {H : Heap} {locs : List Loc} {cells slots : Nat} {Q : State → Prop}
variable {cc : ByteArray} {pc : Nat} {ls : Array Slot} {rest : List Value} {D : va_G} {cl : List vw_C} {A : Nat → Prop} {a : Nat} {tys : List (ClassId × FieldType)} {X : va_W} {L : List Nat} {f : Nat → va_E} {H0 : Heap}
theorem pz_iald (hexec : p.tables.exec = Jvm.exec) (hb : c.code = cc) (hK : va_K D cl tys s) (hP : va_P D cl (X ++ va_pl L f) H) (t0 : Nat) {cA : ClassId} {n : Nat} {g : Nat → Int32} (ha : a ∈ L) (hf : f a = .inl (cA, n, .inl g)) (ht : tys[t0]? = some (cA, .int)) {j : Nat} (hj : j < n) (hn : n < 2 ^ 31) (hdg : decode cc pc = .ok (.iaload, 1))
    (kk : W p l e R s m args below meth c H locs cells slots Q (F0 m (pc + 1) ls (.int (g j) :: rest))) : W p l e R s m args below meth c H locs cells slots Q (F0 m pc ls (.int (nI j) :: .ref a :: rest)) := by
  obtain ⟨q0, he⟩ := pz_at (X := X) ha hf
  refine va_iald hexec hb hK hP q0 t0 he ht (vp_in_nI hj hn) hdg ?_
  rw [nI_clamp (by omega)]
  exact kk
theorem pz_iast (hexec : p.tables.exec = Jvm.exec) (hb : c.code = cc) (hK : va_K D cl tys s) (hP : va_P D cl (X ++ va_pl L f) H) (hD : va_D A (X ++ va_pl L f)) (hS : va_S A H0 H locs) (t0 : Nat) {cA : ClassId} {n : Nat} {g : Nat → Int32} (ha : a ∈ L) (hf : f a = .inl (cA, n, .inl g)) (ht : tys[t0]? = some (cA, .int)) {j : Nat} {x : Int32} (hj : j < n) (hn : n < 2 ^ 31) (hdg : decode cc pc = .ok (.iastore, 1))
    (kk : ∀ (f1 : Nat → va_E) (H1 : Heap) (locs1 : List Loc), f1 = va_up f a (.inl (cA, n, .inl (upd g j x))) → va_P D cl (X ++ va_pl L f1) H1 → va_D A (X ++ va_pl L f1) → va_S A H0 H1 locs1 → W p l e R s m args below meth c H1 locs1 cells slots Q (F0 m (pc + 1) ls rest)) : W p l e R s m args below meth c H locs cells slots Q (F0 m pc ls (.int x :: .int (nI j) :: .ref a :: rest)) := by
  obtain ⟨q0, he⟩ := pz_at (X := X) ha hf
  refine va_iast hexec hb hK hP hD hS q0 t0 he ht (vp_in_nI hj hn) hdg (fun H1 locs1 hP1 hD1 hS1 => ?_)
  rw [pz_set hD ha hf he, nI_clamp (by omega)] at hP1 hD1
  exact kk _ H1 locs1 rfl hP1 hD1 hS1
theorem pz_laldN (hexec : p.tables.exec = Jvm.exec) (hb : c.code = cc) (hK : va_K D cl tys s) (hP : va_P D cl (X ++ va_pl L f) H) (t0 : Nat) {cA : ClassId} {n : Nat} {g : Nat → Int64} (ha : a ∈ L) (hf : f a = .inl (cA, n, .inr (.inl g))) (ht : tys[t0]? = some (cA, .long)) {j : Nat} (hj : j < n) (hn : n < 2 ^ 31) (hdg : decode cc pc = .ok (.laload, 1))
    (kk : W p l e R s m args below meth c H locs cells slots Q (F0 m (pc + 1) ls (.long (g j) :: rest))) : W p l e R s m args below meth c H locs cells slots Q (F0 m pc ls (.int (nI j) :: .ref a :: rest)) := by
  refine pz_lald hexec hb hK hP t0 ha hf ht (vp_in_nI hj hn) hdg ?_
  rw [nI_clamp (by omega)]
  exact kk
theorem pz_lastN (hexec : p.tables.exec = Jvm.exec) (hb : c.code = cc) (hK : va_K D cl tys s) (hP : va_P D cl (X ++ va_pl L f) H) (hD : va_D A (X ++ va_pl L f)) (hS : va_S A H0 H locs) (t0 : Nat) {cA : ClassId} {n : Nat} {g : Nat → Int64} (ha : a ∈ L) (hf : f a = .inl (cA, n, .inr (.inl g))) (ht : tys[t0]? = some (cA, .long)) {j : Nat} {x : Int64} (hj : j < n) (hn : n < 2 ^ 31) (hdg : decode cc pc = .ok (.lastore, 1))
    (kk : ∀ (f1 : Nat → va_E) (H1 : Heap) (locs1 : List Loc), f1 = va_up f a (.inl (cA, n, .inr (.inl (vp_updL g j x)))) → va_P D cl (X ++ va_pl L f1) H1 → va_D A (X ++ va_pl L f1) → va_S A H0 H1 locs1 → W p l e R s m args below meth c H1 locs1 cells slots Q (F0 m (pc + 1) ls rest)) : W p l e R s m args below meth c H locs cells slots Q (F0 m pc ls (.long x :: .int (nI j) :: .ref a :: rest)) := by
  refine pz_last hexec hb hK hP hD hS t0 ha hf ht (vp_in_nI hj hn) hdg (fun f1 H1 locs1 e1 hP1 hD1 hS1 => ?_)
  rw [nI_clamp (by omega)] at e1
  exact kk f1 H1 locs1 e1 hP1 hD1 hS1
theorem pz_newi (hexec : p.tables.exec = Jvm.exec) (hb : c.code = cc) (harr : (Cond.arrayClass .int).before args s = true) (hK : va_K D cl tys s) (hP : va_P D cl (X ++ va_pl L f) H) (hD : va_D A (X ++ va_pl L f)) (hS : va_S A H0 H locs) (hA : ∀ q, H0.size ≤ q → A q) (t0 : Nat) {cL : ClassId} (ht : tys[t0]? = some (cL, .int))
    {n : Int32} (N' : Nat) (hn : ¬ n < 0) (hN : n.toNatClampNeg = N') (hbytes : N' * componentBytes .int ≤ 536870912) (hcells : cells + 1 ≤ R.cells) (hslots : slots + N' ≤ R.slots) (hdg : decode cc pc = .ok (.newarray .int, 2))
    (kk : ∀ (q : Nat) (L1 : List Nat) (f1 : Nat → va_E) (H1 : Heap), q ∉ L → L1 = L ++ [q] → f1 = va_up f q (.inl (cL, N', .inl (fun _ => 0))) → va_P D cl (X ++ va_pl L1 f1) H1 → va_D A (X ++ va_pl L1 f1) → va_S A H0 H1 locs →
      W p l e R s m args below meth c H1 locs (cells + 1) (slots + N') Q (F0 m (pc + 2) ls (.ref q :: rest))) : W p l e R s m args below meth c H locs cells slots Q (F0 m pc ls (.int n :: rest)) := by
  refine va_newa (atype := .int) (ty := .int) (a0 := (N', .inl (fun _ => 0))) hexec hb harr rfl hK hP hD hS hA (fun cA => rfl) hn hN hbytes hcells hslots hdg (fun q cA H1 hK1 hP1 hD1 hS1 => ?_)
  have h1 : s.vm.findClass ("[" ++ FieldType.int.toString) = some cA := (hK1.2 tys.length (cA, .int) (by rw [List.getElem?_append_right (Nat.le_refl _), Nat.sub_self]; rfl)).2
  have h2 : s.vm.findClass ("[" ++ FieldType.int.toString) = some cL := (hK.2 t0 (cL, .int) ht).2
  have h3 : cA = cL := Option.some.inj (h1.symm.trans h2)
  subst h3
  have hq : q ∉ L := va_pl_fresh2 hD1
  rw [pz_push hq] at hP1 hD1
  exact kk q _ _ H1 hq rfl rfl hP1 hD1 hS1
end PZI
/-- the model's state: its int fields by number, its long fields, its int arrays, its row of stretches -/
def MS : Type := (Nat → Int32) × (Nat → Int64) × (Nat → Nat → Int32) × (Nat → Int64)
abbrev MS.i (M : MS) : Nat → Int32 := M.1
abbrev MS.j (M : MS) : Nat → Int64 := M.2.1
abbrev MS.r (M : MS) : Nat → Nat → Int32 := M.2.2.1
abbrev MS.g (M : MS) : Nat → Int64 := M.2.2.2
abbrev MS.th (M : MS) : Int32 := M.i 0
abbrev MS.ct (M : MS) : Int32 := M.i 1
abbrev MS.ht (M : MS) : Int32 := M.i 2
abbrev MS.tp (M : MS) : Int32 := M.i 3
abbrev MS.gr (M : MS) : Int32 := M.i 4
abbrev MS.pg (M : MS) : Int32 := M.i 5
abbrev MS.bg (M : MS) : Int32 := M.i 6
abbrev MS.io (M : MS) : Int32 := M.i 7
abbrev MS.be (M : MS) : Int32 := M.i 8
abbrev MS.le (M : MS) : Int32 := M.i 9
abbrev MS.ln (M : MS) : Int64 := M.j 0
abbrev MS.dp (M : MS) : Int64 := M.j 1
abbrev MS.sh (M : MS) : Int64 := M.j 2
abbrev MS.kd (M : MS) : Nat → Int32 := M.r 1
abbrev MS.on (M : MS) : Nat → Int32 := M.r 2
abbrev MS.tw (M : MS) : Nat → Int32 := M.r 3
abbrev MS.te (M : MS) : Nat → Int32 := M.r 4
abbrev MS.od (M : MS) : Nat → Int32 := M.r 5
abbrev MS.hs (M : MS) : Nat → Int32 := M.r 6
abbrev MS.ts (M : MS) : Nat → Int32 := M.r 7
abbrev MS.ds (M : MS) : Nat → Int32 := M.r 8
abbrev MS.fs (M : MS) : Nat → Int32 := M.r 9
abbrev MS.es (M : MS) : Nat → Int32 := M.r 10
abbrev MS.cs (M : MS) : Nat → Int32 := M.r 11
abbrev MS.en (M : MS) : Nat → Int32 := M.r 12
abbrev MS.si (M : MS) (k : Nat) (x : Int32) : MS := (va_up M.i k x, M.j, M.r, M.g)
abbrev MS.sj (M : MS) (k : Nat) (x : Int64) : MS := (M.i, va_up M.j k x, M.r, M.g)
abbrev MS.sr (M : MS) (k : Nat) (x : Nat → Int32) : MS := (M.i, M.j, va_up M.r k x, M.g)
abbrev MS.sg (M : MS) (x : Nat → Int64) : MS := (M.i, M.j, M.r, x)
def mO (A : Nat → Nat) (M : MS) : va_E := .inr (10, [.int M.th, .ref (A 1), .ref (A 2), .ref (A 3), .ref (A 4), .ref (A 5), .int M.ct, .int M.ht, .int M.tp, .int M.gr, .ref (A 6), .ref (A 7), .ref (A 8), .ref (A 9), .ref (A 10), .ref (A 11), .ref (A 12), .int M.pg, .int M.bg, .int M.io, .int M.be, .int M.le, .long M.ln, .long M.dp, .ref (A 13), .long M.sh])
def mE (G : gG) (A : Nat → Nat) (M : MS) (j : Nat) : va_E := match j with
  | 0 => mO A M
  | j + 1 => if j = 12 then .inl (cJ G, 4, .inr (.inl M.g)) else .inl (cI G, (if j < 5 then 2000 else 2001), .inl (M.r (j + 1)))
def mS (A : Nat → Nat) (E : Nat → va_E) : Nat → Nat → va_E
  | 0, _ => .inr (0, [])
  | n + 1, z => if z = A n then E n else mS A E n z
def mF (G : gG) (A : Nat → Nat) (M : MS) : Nat → va_E := mS A (mE G A M) 14
def LM (A : Nat → Nat) : List Nat := (List.range 14).map A
def mJn (A : Nat → Nat) : Prop := ∀ i j, i < 14 → j < 14 → A i = A j → i = j
theorem lm_in {A : Nat → Nat} {i : Nat} (h : i < 14) : A i ∈ LM A := List.mem_map.mpr ⟨i, List.mem_range.mpr h, rfl⟩
theorem mS_at {A : Nat → Nat} {E : Nat → va_E} (hA : mJn A) (n : Nat) : n ≤ 14 → ∀ i, i < n → mS A E n (A i) = E i := by
  induction n with
  | zero => intro _ i h; exact absurd h (Nat.not_lt_zero _)
  | succ n ih =>
    intro hn i hi
    show (if A i = A n then E n else mS A E n (A i)) = E i
    by_cases e : i = n
    · subst e
      exact if_pos rfl
    · rw [if_neg (fun h => e (hA i n (by omega) (by omega) h))]
      exact ih (by omega) i (by omega)
theorem mS_congr {A : Nat → Nat} {E E' : Nat → va_E} (n : Nat) : (∀ j, j < n → E j = E' j) → mS A E n = mS A E' n := by
  induction n with
  | zero => intro _; rfl
  | succ n ih =>
    intro h
    funext z
    show (if z = A n then E n else mS A E n z) = (if z = A n then E' n else mS A E' n z)
    rw [h n (by omega), ih (fun j hj => h j (by omega))]
theorem mS_up {A : Nat → Nat} {E : Nat → va_E} (hA : mJn A) {v : va_E} {i : Nat} (n : Nat) : n ≤ 14 → i < n → va_up (mS A E n) (A i) v = mS A (va_up E i v) n := by
  induction n with
  | zero => intro _ h; exact absurd h (Nat.not_lt_zero _)
  | succ n ih =>
    intro hn hi
    funext z
    show (if z = A i then v else if z = A n then E n else mS A E n z) = (if z = A n then va_up E i v n else mS A (va_up E i v) n z)
    by_cases e : i = n
    · subst e
      by_cases hz : z = A i
      · rw [if_pos hz, if_pos hz, va_up_self]
      · rw [if_neg hz, if_neg hz, if_neg hz]
        exact congrFun (mS_congr i (fun j hj => (va_up_ne _ _ (by omega)).symm)) z
    · by_cases hz : z = A n
      · rw [if_neg (fun h => e (hA i n (by omega) (by omega) (h.symm.trans hz))), if_pos hz, if_pos hz, va_up_ne _ _ (Ne.symm e)]
      · rw [if_neg hz, if_neg hz, ← congrFun (ih (by omega) (by omega)) z]
        rfl
theorem mf_at {G : gG} {A : Nat → Nat} (hA : mJn A) (M : MS) (i : Nat) (h : i < 14) : mF G A M (A i) = mE G A M i := mS_at hA 14 (Nat.le_refl _) i h
theorem mf_o {G : gG} {A : Nat → Nat} (hA : mJn A) {M M1 : MS} (h1 : M1.r = M.r) (h2 : M1.g = M.g) : va_up (mF G A M) (A 0) (mO A M1) = mF G A M1 := by
  rw [mF, mS_up hA 14 (Nat.le_refl _) (by decide)]
  refine mS_congr 14 (fun j hj => ?_)
  match j with
  | 0 => rfl
  | j + 1 =>
    rw [va_up_ne _ _ (Nat.succ_ne_zero j), mE, mE, h1, h2]
theorem mf_r {G : gG} {A : Nat → Nat} (hA : mJn A) {M : MS} (i : Nat) (h0 : 0 < i) (hi : i < 13) {K : Nat → Int32} : va_up (mF G A M) (A i) (mE G A (M.sr i K) i) = mF G A (M.sr i K) := by
  rw [mF, mS_up hA 14 (Nat.le_refl _) (by omega)]
  refine mS_congr 14 (fun j hj => ?_)
  by_cases e : j = i
  · subst e
    exact va_up_self _ _ _
  · rw [va_up_ne _ _ e]
    match j with
    | 0 => rfl
    | j + 1 =>
      show mE G A M (j + 1) = mE G A (M.sr i K) (j + 1)
      rw [mE, mE]
      show (_ : va_E) = (if j = 12 then .inl (cJ G, 4, .inr (.inl M.g)) else .inl (cI G, (if j < 5 then 2000 else 2001), .inl (va_up M.r i K (j + 1))) : va_E)
      rw [va_up_ne _ _ e]
theorem mf_g {G : gG} {A : Nat → Nat} (hA : mJn A) {M : MS} {K : Nat → Int64} : va_up (mF G A M) (A 13) (.inl (cJ G, 4, .inr (.inl K))) = mF G A (M.sg K) := by
  rw [mF, mS_up hA 14 (Nat.le_refl _) (by decide)]
  refine mS_congr 14 (fun j hj => ?_)
  by_cases e : j = 13
  · subst e
    exact va_up_self _ _ _
  · rw [va_up_ne _ _ e]
    match j with
    | 0 => rfl
    | j + 1 =>
      have h : ¬ j = 12 := by omega
      rw [mE, mE, if_neg h, if_neg h]
