/-! LISTS IN ONE FORM; the representation of a PageMaker -/
/-- the list at al holds the addresses xs; its row is at d (the empty row of the JDK while it is empty) -/
def LR (G : gG) (L : List Nat) (f : Nat → va_E) (al d : Nat) (xs : List Nat) : Prop := ∃ mo : Int32, al ∈ L ∧ f al = .inr (0, [.int mo, .ref d, .int (nI xs.length)]) ∧ ((xs = [] ∧ d = G.2.2.1) ∨ (xs ≠ [] ∧ d ∈ L ∧ ∃ (cap : Nat) (a : Nat → Option Nat), f d = .inl (cO G, cap, .inr (.inr (.inr (.inr a)))) ∧ xs.length ≤ cap ∧ 10 ≤ cap ∧ cap ≤ 1000 ∧ ∀ i, i < xs.length → a i = xs[i]?))
theorem mI_mono {l : Launch} {y : MethodName} {ws : List Cond} {rm : Room} {G : gG} {L : List Nat} {f : Nat → va_E} {sz : Nat} {av : List Value} {mc ms : Nat} {p1 p2 : Int32 → pz_U → Prop} (h : mI l y ws rm G L f sz av mc ms p1) (hp : ∀ r u, p1 r u → p2 r u) : mI l y ws rm G L f sz av mc ms p2 := by
  intro p e ha hc hk s m args below hf happ hpre hK
  obtain ⟨n, o, h1, h2, h3, ⟨⟨⟨r, u, e1, e2, e3⟩, e4⟩, h5⟩⟩ := h p e ha hc hk s m args below hf happ hpre hK
  exact ⟨n, o, h1, h2, h3, ⟨⟨⟨r, u, e1, hp r u e2, e3⟩, e4⟩, h5⟩⟩
/-- a list with one element: what add() makes -/
theorem lr_snoc {xs : List Nat} {a : Nat → Option Nat} {y : Nat} (h : ∀ i, i < xs.length → a i = xs[i]?) : ∀ i, i < (xs ++ [y]).length → va_up a xs.length (some y) i = (xs ++ [y])[i]? := by
  intro i hi
  rw [List.length_append, List.length_singleton] at hi
  by_cases e : i = xs.length
  · subst e
    rw [va_up_self, List.getElem?_append_right (Nat.le_refl _), Nat.sub_self]
    rfl
  · rw [va_up_ne _ _ e, List.getElem?_append_left (by omega)]
    exact h i (by omega)
theorem lr_cpy {xs : List Nat} {a : Nat → Option Nat} {cap : Nat} (e : xs.length = cap) (h : ∀ i, i < xs.length → a i = xs[i]?) : ∀ i, i < xs.length → va_cpy a (fun _ => none) 0 0 cap i = xs[i]? := by
  intro i hi
  rw [pk_cpy_in (Nat.zero_le _) (by omega), Nat.zero_add, Nat.sub_zero]
  exact h i hi
theorem al_add (l : Launch) (G : gG) (L : List Nat) (f : Nat → va_E) (sz : Nat) (al d : Nat) (xs : List Nat) (y : Nat) (h : LR G L f al d xs) (hn : xs.length < 512) (hel : ∀ i x : Nat, xs[i]? = some x → elOK L f x) (he : elOK L f y) :
    mI l y_AL_add0 w_AL_add0 { frames := 6, cells := 1, slots := 900, locals := 150 } G L f sz [.ref al, .ref y] 1 900 (fun r u => r = 1 ∧ ∃ d', LR G u.1 u.2 al d' (xs ++ [y]) ∧ ((xs ≠ [] ∧ d' = d ∧ d ∈ L ∧ u.1 = L ∧ ∃ (cap : Nat) (a : Nat → Option Nat), f d = .inl (cO G, cap, .inr (.inr (.inr (.inr a))))) ∨ (d' ∉ L ∧ u.1 = L ++ [d'])) ∧ ∀ z, z ≠ al → z ≠ d' → u.2 z = f z) := by
  obtain ⟨mo, h1, h2, h3⟩ := h
  rcases h3 with ⟨rfl, rfl⟩ | ⟨hne, h3, cap, a, h4, h5, h6, h7, h8⟩
  · refine mI_mono (c_add0_first l G L f sz al y mo h1 h2 he) (fun r u hu => ?_)
    obtain ⟨hr, r9, hn9, rfl⟩ := hu
    refine ⟨hr, r9, ⟨mo + 1, List.mem_append_left _ h1, va_up_self _ _ _, Or.inr ⟨List.cons_ne_nil _ _, l_in_new _ _, 10, _, (va_up_ne _ _ (pz_nef hn9 h1)).trans (va_up_self _ _ _), Nat.le_of_ble_eq_true rfl, by decide, by decide, ?_⟩⟩, Or.inr ⟨hn9, rfl⟩, fun z hz1 hz2 => (va_up_ne _ _ hz1).trans (va_up_ne _ _ hz2)⟩
    exact lr_snoc (xs := []) (fun i hi => absurd hi (Nat.not_lt_zero _))
  · by_cases hc : xs.length < cap
    · refine mI_mono (c_add0_room l G L f sz al d cap xs.length y mo a h1 h2 h3 h4 hc h7 he) (fun r u hu => ?_)
      obtain ⟨hr, rfl⟩ := hu
      refine ⟨hr, d, ⟨mo + 1, h1, ?_, Or.inr ⟨List.append_ne_nil_of_right_ne_nil _ (List.cons_ne_nil _ _), h3, cap, _, (va_up_ne _ _ (pz_nea h4 h2)).trans (va_up_self _ _ _), by rw [List.length_append]; exact hc, h6, h7, lr_snoc h8⟩⟩, Or.inl ⟨hne, rfl, h3, rfl, _, _, h4⟩, fun z hz1 hz2 => (va_up_ne _ _ hz1).trans (va_up_ne _ _ hz2)⟩
      rw [List.length_append]
      exact va_up_self _ _ _
    · have hcap : xs.length = cap := by omega
      rw [hcap] at h2
      refine mI_mono (c_add0_full l G L f sz al d cap y mo a h1 h2 h3 h4 h6 (by omega) (fun i hi z hz => hel i z (by rw [← h8 i (by omega)]; exact hz)) he) (fun r u hu => ?_)
      obtain ⟨hr, r9, hn9, rfl⟩ := hu
      refine ⟨hr, r9, ⟨mo + 1, List.mem_append_left _ h1, ?_, Or.inr ⟨List.append_ne_nil_of_right_ne_nil _ (List.cons_ne_nil _ _), l_in_new _ _, cap + cap / 2, _, (va_up_ne _ _ (pz_nef hn9 h1)).trans (va_up_self _ _ _), by rw [List.length_append, List.length_singleton]; omega, by omega, by omega, ?_⟩⟩, Or.inr ⟨hn9, rfl⟩, fun z hz1 hz2 => (va_up_ne _ _ hz1).trans (va_up_ne _ _ hz2)⟩
      · rw [List.length_append, hcap]
        exact va_up_self _ _ _
      · have k := lr_snoc (y := y) (lr_cpy hcap h8)
        rw [hcap] at k
        exact k
/-- what get(i) needs -/
theorem lr_get {G : gG} {L : List Nat} {f : Nat → va_E} {al d : Nat} {xs : List Nat} (h : LR G L f al d xs) {i x : Nat} (hx : xs[i]? = some x) : ∃ (mo : Int32) (cap : Nat) (a : Nat → Option Nat), al ∈ L ∧ f al = .inr (0, [.int mo, .ref d, .int (nI xs.length)]) ∧ d ∈ L ∧ f d = .inl (cO G, cap, .inr (.inr (.inr (.inr a)))) ∧ i < xs.length ∧ xs.length ≤ cap ∧ cap ≤ 1000 ∧ a i = some x := by
  obtain ⟨mo, h1, h2, h3⟩ := h
  have hi : i < xs.length := (List.getElem?_eq_some_iff.mp hx).1
  rcases h3 with ⟨rfl, -⟩ | ⟨hne, h3, cap, a, h4, h5, h6, h7, h8⟩
  · exact absurd hi (Nat.not_lt_zero _)
  · exact ⟨mo, cap, a, h1, h2, h3, h4, hi, h5, h7, (h8 i hi).trans hx⟩
theorem al_get (l : Launch) (G : gG) (L : List Nat) (f : Nat → va_E) (sz : Nat) (al d : Nat) (xs : List Nat) (i x : Nat) (h : LR G L f al d xs) (hx : xs[i]? = some x) : sQ l y_AL_get w_AL_get { frames := 2, cells := 0, slots := 0, locals := 43 } G L f sz [.ref al, .int (nI i)] (fun r => r = some x) := by
  obtain ⟨mo, cap, a, h1, h2, h3, h4, h5, h6, h7, h8⟩ := lr_get h hx
  have k := c_AL_get l G L f sz al d cap mo (nI xs.length) (nI i) a h1 h2 h3 h4 (vp_in_nI (by omega) (by omega)) (nI_pos (by omega)) (nI_lt h5 (by omega))
  rw [nI_clamp (by omega), h8] at k
  exact k
theorem al_size (l : Launch) (G : gG) (L : List Nat) (f : Nat → va_E) (sz : Nat) (al d : Nat) (xs : List Nat) (h : LR G L f al d xs) : sI l y_AL_size w_AL_size { frames := 0, cells := 0, slots := 0, locals := 0 } G L f sz [.ref al] (fun r => r = nI xs.length) := by
  obtain ⟨mo, h1, h2, -⟩ := h
  exact c_AL_size l G L f sz al d mo (nI xs.length) h1 h2
/-- a list keeps what it holds when other cells change, or come -/
theorem lr_keep {G : gG} {L L1 : List Nat} {f f1 : Nat → va_E} {al d : Nat} {xs : List Nat} (h : LR G L f al d xs) (hL : ∀ z, z ∈ L → z ∈ L1) (ha : f1 al = f al) (hd : d ∈ L → f1 d = f d) : LR G L1 f1 al d xs := by
  obtain ⟨mo, h1, h2, h3⟩ := h
  refine ⟨mo, hL _ h1, ha.trans h2, ?_⟩
  rcases h3 with h3 | ⟨hne, h3, cap, a, h4, h5⟩
  · exact Or.inl h3
  · exact Or.inr ⟨hne, hL _ h3, cap, a, (hd h3).trans h4, h5⟩
/-! THE CLASS'S STATE: items; the frame now; ended pages, each with its frame; the open page: its frame, what it holds, its totals -/
abbrev CS : Type := List It × Fr × List (Fr × Pg) × Fr × Op × Tt
/-- the items' objects -/
def XR (L : List Nat) (f : Nat → va_E) (xs : List Nat) (its : List It) : Prop := xs.length = its.length ∧ ∀ (i x : Nat) (it : It), xs[i]? = some x → its[i]? = some it → x ∈ L ∧ f x = itE it ∧ itOK it
/-- the ended pages' objects -/
def YR (L : List Nat) (f : Nat → va_E) (ys : List Nat) (pgs : List (Fr × Pg)) : Prop := ys.length = pgs.length ∧ ∀ (i y : Nat) (pg : Fr × Pg), ys[i]? = some y → pgs[i]? = some pg → y ∈ L ∧ ∃ z, z ∈ L ∧ f z = frE pg.1 ∧ f y = pgE z pg.2
/-- the places: the lists and their rows, the frame, the open page, its totals, their row, its frame -/
abbrev Pl : Type := Nat × Nat × Nat × Nat × Nat × Nat × Nat × Nat × Nat
def RX (G : gG) (L : List Nat) (f : Nat → va_E) (pm al ad el ed fr op to sa fo : Nat) (xs ys : List Nat) (S : CS) : Prop :=
  pm ∈ L ∧ f pm = .inr (4, [.ref al, .ref el, .ref fr, .ref op]) ∧ LR G L f al ad xs ∧ LR G L f el ed ys ∧ al ≠ el ∧ (xs ≠ [] → ys ≠ [] → ad ≠ ed) ∧ XR L f xs S.1 ∧ YR L f ys S.2.2.1 ∧ fr ∈ L ∧ f fr = frE S.2.1 ∧ op ∈ L ∧ f op = opE to fo S.2.2.2.2.1 ∧ to ∈ L ∧ f to = toE sa S.2.2.2.2.2 ∧ sa ∈ L ∧ f sa = saE G S.2.2.2.2.2 ∧ fo ∈ L ∧ f fo = frE S.2.2.2.1
