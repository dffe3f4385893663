/-! new arrays in the pool; small pure pictures of what items add -/
section PZF
variable {p : Program} {l : Launch} {e : Env} {R : Room} {s : State} {m : MethodId} {args : Array Value} {below : List Frame} {meth : Method} {c : Code} {H : Heap} {locs : List Loc} {cells slots : Nat} {Q : State → Prop}
variable {cc : ByteArray} {pc : Nat} {ls : Array Slot} {rest : List Value} {D : va_G} {cl : List vw_C} {A : Nat → Prop} {tys : List (ClassId × FieldType)} {X : va_W} {L : List Nat} {f : Nat → va_E} {H0 : Heap}
theorem pz_newl (hexec : p.tables.exec = Jvm.exec) (hb : c.code = cc) (harr : (Cond.arrayClass .long).before args s = true) (hK : va_K D cl tys s) (hP : va_P D cl (X ++ va_pl L f) H) (hD : va_D A (X ++ va_pl L f)) (hS : va_S A H0 H locs) (hA : ∀ q, H0.size ≤ q → A q) (t0 : Nat) {cL : ClassId} (ht : tys[t0]? = some (cL, .long))
    {n : Int32} (N' : Nat) (hn : ¬ n < 0) (hN : n.toNatClampNeg = N') (hbytes : N' * componentBytes .long ≤ 536870912) (hcells : cells + 1 ≤ R.cells) (hslots : slots + N' ≤ R.slots) (hdg : decode cc pc = .ok (.newarray .long, 2))
    (kk : ∀ (q : Nat) (L1 : List Nat) (f1 : Nat → va_E) (H1 : Heap), q ∉ L → L1 = L ++ [q] → f1 = va_up f q (.inl (cL, N', .inr (.inl (fun _ => 0)))) → va_P D cl (X ++ va_pl L1 f1) H1 → va_D A (X ++ va_pl L1 f1) → va_S A H0 H1 locs →
      W p l e R s m args below meth c H1 locs (cells + 1) (slots + N') Q (F0 m (pc + 2) ls (.ref q :: rest))) : W p l e R s m args below meth c H locs cells slots Q (F0 m pc ls (.int n :: rest)) := by
  refine va_newa (atype := .long) (ty := .long) (a0 := (N', .inr (.inl (fun _ => 0)))) hexec hb harr rfl hK hP hD hS hA (fun cA => rfl) hn hN hbytes hcells hslots hdg (fun q cA H1 hK1 hP1 hD1 hS1 => ?_)
  have h1 : s.vm.findClass ("[" ++ FieldType.long.toString) = some cA := (hK1.2 tys.length (cA, .long) (by rw [List.getElem?_append_right (Nat.le_refl _), Nat.sub_self]; rfl)).2
  have h2 : s.vm.findClass ("[" ++ FieldType.long.toString) = some cL := (hK.2 t0 (cL, .long) ht).2
  have h3 : cA = cL := Option.some.inj (h1.symm.trans h2)
  subst h3
  have hq : q ∉ L := va_pl_fresh2 hD1
  rw [pz_push hq] at hP1 hD1
  exact kk q _ _ H1 hq rfl rfl hP1 hD1 hS1
theorem pz_newo (hexec : p.tables.exec = Jvm.exec) (hb : c.code = cc) {own C : String} {index : Nat} (hown : s.vm.findClass own = some m.cls) (hclink : (Cond.classLink own index C).before args s = true) (hover : va_AO C s) (hK : va_K D cl tys s) (hP : va_P D cl (X ++ va_pl L f) H) (hD : va_D A (X ++ va_pl L f)) (hS : va_S A H0 H locs) (hA : ∀ q, H0.size ≤ q → A q) (t0 : Nat) {cL : ClassId} (ht : tys[t0]? = some (cL, .object C))
    {n : Int32} (N' : Nat) (hn : ¬ n < 0) (hN : n.toNatClampNeg = N') (hbytes : N' * 4 ≤ 536870912) (hcells : cells + 1 ≤ R.cells) (hslots : slots + N' ≤ R.slots) (hdg : decode cc pc = .ok (.anewarray index, 3))
    (kk : ∀ (q : Nat) (L1 : List Nat) (f1 : Nat → va_E) (H1 : Heap), q ∉ L → L1 = L ++ [q] → f1 = va_up f q (.inl (cL, N', .inr (.inr (.inr (.inr (fun _ => none)))))) → va_P D cl (X ++ va_pl L1 f1) H1 → va_D A (X ++ va_pl L1 f1) → va_S A H0 H1 locs →
      W p l e R s m args below meth c H1 locs (cells + 1) (slots + N') Q (F0 m (pc + 3) ls (.ref q :: rest))) : W p l e R s m args below meth c H locs cells slots Q (F0 m pc ls (.int n :: rest)) := by
  refine va_newq hexec hb hown hclink hover hK hP hD hS hA hn hN hbytes hcells hslots hdg (fun q cA H1 hK1 hP1 hD1 hS1 => ?_)
  have h1 := (hK1.2 tys.length (cA, .object C) (by rw [List.getElem?_append_right (Nat.le_refl _), Nat.sub_self]; rfl)).2
  have h2 := (hK.2 t0 (cL, .object C) ht).2
  obtain ⟨_, _, _, _, _, h1⟩ := h1
  obtain ⟨_, _, _, _, _, h2⟩ := h2
  have h3 : cA = cL := Option.some.inj (h1.symm.trans h2)
  subst h3
  have hq : q ∉ L := va_pl_fresh2 hD1
  rw [pz_push hq] at hP1 hD1
  exact kk q _ _ H1 hq rfl rfl hP1 hD1 hS1
theorem pz_alen (hexec : p.tables.exec = Jvm.exec) (hb : c.code = cc) (hK : va_K D cl tys s) (hP : va_P D cl (X ++ va_pl L f) H) (t0 : Nat) {a : Nat} {cA : ClassId} {C : FieldType} {n : Nat} {x : (Nat → Int32) ⊕ (Nat → Int64) ⊕ (Nat → UInt32) ⊕ (Nat → UInt64) ⊕ (Nat → Option Nat)} (ha : a ∈ L) (hf : f a = .inl (cA, n, x)) (ht : tys[t0]? = some (cA, C)) (hdg : decode cc pc = .ok (.arraylength, 1))
    (kk : W p l e R s m args below meth c H locs cells slots Q (F0 m (pc + 1) ls (.int (nI n) :: rest))) : W p l e R s m args below meth c H locs cells slots Q (F0 m pc ls (.ref a :: rest)) := by
  obtain ⟨q0, he⟩ := pz_at (X := X) ha hf
  have h1 := hP q0 _ he
  have h2 := (hK.2 t0 _ ht).1
  rcases x with x | x | x | x | x <;>
    exact W.alen hexec hb h1 (h2 n _) (by show (arrV _ _ _).slots.size.toInt32 = nI n; rw [arrV_size]; rfl) rfl rfl hdg kk
end PZF
/-- the top glue's width -/
def k_top (t h : Int32) : Int64 := if (0 : Int64) < t.toInt64 - h.toInt64 then t.toInt64 - h.toInt64 else 0
/-- a box's depth, cut -/
def k_dep (d g : Int32) : Int64 := (if g < d then g else d).toInt64
theorem k_in4 {o : Int32} (h : vp_in o 4) : ¬ o < 0 ∧ ¬ 4 ≤ o := by
  obtain ⟨h1, h2⟩ := vp_in_iff.mp h
  rw [Int32.lt_iff_toInt_lt, Int32.le_iff_toInt_le, Int32.toInt_zero, show (4 : Int32).toInt = 4 by decide]
  omega
