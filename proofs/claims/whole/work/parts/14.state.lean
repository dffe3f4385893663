/-! THE STATE in pure words: items, totals, open and ended pages -/
/-- an item: box (height, depth), glue (width, stretch, order, shrink), kern (width), penalty -/
abbrev It : Type := (Int32 × Int32) ⊕ (Int32 × Int32 × Int32 × Int32) ⊕ Int32 ⊕ Int32
def itE (it : It) : va_E := match it with
  | .inl (a, b) => .inr (5, [.int a, .int b])
  | .inr (.inl (a, b, o, d)) => .inr (6, [.int a, .int b, .int o, .int d])
  | .inr (.inr (.inl a)) => .inr (7, [.int a])
  | .inr (.inr (.inr a)) => .inr (8, [.int a])
def itOK (it : It) : Prop := match it with
  | .inr (.inl (_, _, o, _)) => vp_in o 4
  | _ => True
/-- length, depth, shrink, stretch -/
abbrev Tt : Type := Int64 × Int64 × Int64 × (Nat → Int64)
def t_0 : Tt := (0, 0, 0, fun _ => 0)
def t_sp (x : Int64) (T : Tt) : Tt := (T.1 + (T.2.1 + x), 0, T.2.2.1, T.2.2.2)
def t_add (it : It) (g : Int32) (T : Tt) : Tt := match it with
  | .inl (a, b) => (T.1 + (T.2.1 + a.toInt64) + (b.toInt64 - k_dep b g), k_dep b g, T.2.2.1, T.2.2.2)
  | .inr (.inl (a, b, o, d)) => (T.1 + (T.2.1 + a.toInt64), 0, T.2.2.1 + d.toInt64, vp_updL T.2.2.2 o.toNatClampNeg (T.2.2.2 o.toNatClampNeg + b.toInt64))
  | .inr (.inr (.inl a)) => t_sp a.toInt64 T
  | .inr (.inr (.inr _)) => T
def toE (sa : Nat) (T : Tt) : va_E := .inr (3, [.ref sa, .long T.1, .long T.2.1, .long T.2.2.1])
def saE (G : gG) (T : Tt) : va_E := .inl (cJ G, 4, .inr (.inl T.2.2.2))
/-- height, top, greatest depth -/
abbrev Fr : Type := Int32 × Int32 × Int32
def frE (F : Fr) : va_E := .inr (1, [.int F.1, .int F.2.1, .int F.2.2])
/-- first, length before the last, best item, best cost, best badness, ending item -/
abbrev Op : Type := Int32 × Int64 × Int32 × Int32 × Int32 × Int32
def opE (to fr : Nat) (P : Op) : va_E := .inr (2, [.ref to, .ref fr, .int P.1, .long P.2.1, .int P.2.2.1, .int P.2.2.2.1, .int P.2.2.2.2.1, .int P.2.2.2.2.2])
/-- a break is looked at: its badness and cost, what the page is then, whether it ends -/
def o_bad (T : Tt) (h : Int32) (len : Int64) : Int32 := k_boe T.2.2.2 T.2.2.1 (h.toInt64 - len)
abbrev o_ends (c p : Int32) : Prop := c = 1073741823 ∨ p ≤ (-10000)
def o_best (P : Op) (place b c : Int32) : Op := if c ≤ P.2.2.2.1 then (P.1, P.2.1, place, c, b, P.2.2.2.2.2) else P
def o_end (P : Op) (place : Int32) : Op := (P.1, P.2.1, P.2.2.1, P.2.2.2.1, P.2.2.2.2.1, place)
/-- an ended page: first, best item, cost, badness, ending item, excess, order, total -/
abbrev Pg : Type := Int32 × Int32 × Int32 × Int32 × Int32 × Int64 × Int32 × Int64
def pgE (fr : Nat) (P : Pg) : va_E := .inr (9, [.ref fr, .int P.1, .int P.2.1, .int P.2.2.1, .int P.2.2.2.1, .int P.2.2.2.2.1, .long P.2.2.2.2.2.1, .int P.2.2.2.2.2.2.1, .long P.2.2.2.2.2.2.2])
def k_ord (g : Nat → Int64) (ex : Int64) : Int32 := if 0 < ex then k_go g else 0
def k_tot (g : Nat → Int64) (shr ex : Int64) : Int64 := if 0 < ex then g (k_go g).toNatClampNeg else if ex < 0 then shr else 0
def g_set (P : Op) (h : Int32) (T : Tt) : Pg := (P.1, P.2.2.1, P.2.2.2.1, P.2.2.2.2.1, P.2.2.2.2.2, h.toInt64 - T.1, k_ord T.2.2.2 (h.toInt64 - T.1), k_tot T.2.2.2 T.2.2.1 (h.toInt64 - T.1))
theorem k_go_in (g : Nat → Int64) : vp_in (k_go g) 4 := by
  unfold k_go
  split
  · exact vp_in_nI (n := 3) (N := 4) (by decide) (by decide)
  · split
    · exact vp_in_nI (n := 2) (N := 4) (by decide) (by decide)
    · split
      · exact vp_in_nI (n := 1) (N := 4) (by decide) (by decide)
      · exact vp_in_nI (n := 0) (N := 4) (by decide) (by decide)
theorem k_ord_in (g : Nat → Int64) (ex : Int64) : vp_in (k_ord g ex) 4 := by
  unfold k_ord
  split
  · exact k_go_in g
  · exact vp_in_nI (n := 0) (N := 4) (by decide) (by decide)
theorem mV_mono {l : Launch} {y : MethodName} {ws : List Cond} {rm : Room} {G : gG} {L : List Nat} {f : Nat → va_E} {sz : Nat} {av : List Value} {mc ms : Nat} {p1 p2 : pz_U → Prop} (h : mV l y ws rm G L f sz av mc ms p1) (hp : ∀ u, p1 u → p2 u) : mV l y ws rm G L f sz av mc ms p2 := by
  intro p e ha hc hk s m args below hf happ hpre hK
  obtain ⟨n, o, h1, h2, h3, ⟨⟨⟨u, e1, e2, e3⟩, e4⟩, h5⟩⟩ := h p e ha hc hk s m args below hf happ hpre hK
  exact ⟨n, o, h1, h2, h3, ⟨⟨⟨u, e1, hp u e2, e3⟩, e4⟩, h5⟩⟩
theorem tb_U {c0 c2 : Cond} {own C owner : String} {idx : Nat} {x y : MethodName} (h1 : .methodLink own idx x ∈ TB) (h2 : .sameMethod x.cls owner x.name x.desc ∈ TB) (h3 : .selects C x y ∈ TB) (h4 : .instanceMethod y ∈ TB) (h6 : .initialized y.cls ∈ TB) (h5 : c2 ∈ TB) : GoodIn (c0 :: TB) (va_wsU own idx C owner x y (c2 :: TB)) := tb_gs (fun w h => by
  rcases List.mem_append.mp h with h | h
  · simp only [List.mem_cons, List.not_mem_nil, or_false] at h
    rcases h with rfl | rfl | rfl | rfl | rfl <;> assumption
  · rcases List.mem_cons.mp h with rfl | h <;> assumption)
/-! what items add, in one form: the totals' cell and the row of stretches -/
theorem ad_box (l : Launch) (G : gG) (L : List Nat) (f : Nat → va_E) (sz : Nat) (q t sa fr : Nat) (T : Tt) (F : Fr) (a b : Int32) (hq : q ∈ L) (hfq : f q = itE (.inl (a, b))) (ht : t ∈ L) (hf : f t = toE sa T) (hr9 : fr ∈ L) (hfr : f fr = frE F) (hs9 : sa ∈ L) (hsa : f sa = saE G T) :
    mV l y_BX_addTo w_BX_addTo { frames := 1, cells := 0, slots := 0, locals := 40 } G L f sz [.ref q, .ref t, .ref fr] 0 0 (fun u => u = (L, va_up (va_up f t (toE sa (t_add (.inl (a, b)) F.2.2 T))) sa (saE G (t_add (.inl (a, b)) F.2.2 T)))) :=
  mV_mono (c_BX_addTo l G L f sz q t sa fr T.1 T.2.1 T.2.2.1 F.1 F.2.1 F.2.2 a b hq hfq ht hf hr9 hfr) (fun u h => h.trans (by
    have e : va_up f t (toE sa (t_add (.inl (a, b)) F.2.2 T)) sa = saE G (t_add (.inl (a, b)) F.2.2 T) := by rw [va_up_ne _ _ (pz_nea hsa hf)]; exact hsa
    rw [← e, pz_up_same]
    rfl))
theorem ad_glue (l : Launch) (G : gG) (L : List Nat) (f : Nat → va_E) (sz : Nat) (q t sa fr : Nat) (T : Tt) (F : Fr) (a b o d : Int32) (hq : q ∈ L) (hfq : f q = itE (.inr (.inl (a, b, o, d)))) (ht : t ∈ L) (hf : f t = toE sa T) (hr9 : fr ∈ L) (hfr : f fr = frE F) (hs9 : sa ∈ L) (hsa : f sa = saE G T) (h4 : vp_in o 4) :
    mV l y_GL_addTo w_GL_addTo { frames := 1, cells := 0, slots := 0, locals := 22 } G L f sz [.ref q, .ref t, .ref fr] 0 0 (fun u => u = (L, va_up (va_up f t (toE sa (t_add (.inr (.inl (a, b, o, d))) F.2.2 T))) sa (saE G (t_add (.inr (.inl (a, b, o, d))) F.2.2 T)))) :=
  c_GL_addTo l G L f sz q t sa fr T.1 T.2.1 T.2.2.1 T.2.2.2 F.1 F.2.1 F.2.2 a b o d hq hfq ht hf hr9 hfr hs9 hsa h4
theorem ad_kern (l : Launch) (G : gG) (L : List Nat) (f : Nat → va_E) (sz : Nat) (q t sa fr : Nat) (T : Tt) (F : Fr) (a : Int32) (hq : q ∈ L) (hfq : f q = itE (.inr (.inr (.inl a)))) (ht : t ∈ L) (hf : f t = toE sa T) (hs9 : sa ∈ L) (hsa : f sa = saE G T) :
    mV l y_KE_addTo w_KE_addTo { frames := 1, cells := 0, slots := 0, locals := 22 } G L f sz [.ref q, .ref t, .ref fr] 0 0 (fun u => u = (L, va_up (va_up f t (toE sa (t_add (.inr (.inr (.inl a))) F.2.2 T))) sa (saE G (t_add (.inr (.inr (.inl a))) F.2.2 T)))) :=
  mV_mono (c_KE_addTo l G L f sz q t sa fr T.1 T.2.1 T.2.2.1 a hq hfq ht hf) (fun u h => h.trans (by
    have e : va_up f t (toE sa (t_add (.inr (.inr (.inl a))) F.2.2 T)) sa = saE G (t_add (.inr (.inr (.inl a))) F.2.2 T) := by rw [va_up_ne _ _ (pz_nea hsa hf)]; exact hsa
    rw [← e, pz_up_same]
    rfl))
theorem ad_pen (l : Launch) (G : gG) (L : List Nat) (f : Nat → va_E) (sz : Nat) (q t sa fr : Nat) (T : Tt) (F : Fr) (a : Int32) (hf : f t = toE sa T) (hsa : f sa = saE G T) :
    mV l y_PE_addTo w_PE_addTo { frames := 0, cells := 0, slots := 0, locals := 0 } G L f sz [.ref q, .ref t, .ref fr] 0 0 (fun u => u = (L, va_up (va_up f t (toE sa (t_add (.inr (.inr (.inr a))) F.2.2 T))) sa (saE G (t_add (.inr (.inr (.inr a))) F.2.2 T)))) :=
  mV_mono (c_PE_addTo l G L f sz q t fr) (fun u h => h.trans (by
    show (L, f) = (L, va_up (va_up f t (toE sa T)) sa (saE G T))
    rw [← hf, pz_up_same, ← hsa, pz_up_same]))
