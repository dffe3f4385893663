/-! THE LAW'S ENTRY: what the Statement gives -/
theorem tl_1 {w : Cond} (i : Nat) (h : tables_1_1[i]? = some w) : w ∈ lw_tbl := List.mem_append_right _ (List.mem_append_left _ (List.mem_of_getElem? h))
theorem tl_2 {w : Cond} (i : Nat) (h : tables_1_2[i]? = some w) : w ∈ lw_tbl := List.mem_append_right _ (List.mem_append_right _ (List.mem_append_left _ (List.mem_of_getElem? h)))
theorem tl_3 {w : Cond} (i : Nat) (h : tables_1_3[i]? = some w) : w ∈ lw_tbl := List.mem_append_right _ (List.mem_append_right _ (List.mem_append_right _ (List.mem_append_left _ (List.mem_of_getElem? h))))
theorem tl_4 {w : Cond} (i : Nat) (h : tables_1_4[i]? = some w) : w ∈ lw_tbl := List.mem_append_right _ (List.mem_append_right _ (List.mem_append_right _ (List.mem_append_right _ (List.mem_of_getElem? h))))
theorem law_eqi {args : Array Value} {s : State} {tm : Term} {z : Int32} (h : (Cond.eq tm (.int z)).before args s = true) : tm.eval args s none [] s = some (.int z) := by
  cases hv : tm.eval args s none [] s with
  | none => simp [Cond.before, Cond.holds, Cond.value, hv] at h
  | some w =>
    have hz : (Term.int z).eval args s none [] s = some (.int z) := rfl
    simp only [Cond.before, Cond.holds, Cond.value, hv, hz] at h
    cases w <;> simp_all
theorem law_str {args : Array Value} {s : State} {own tx : String} {k c : Nat} (hc : s.vm.findClass own = some c) (h : (Cond.stringRef own k tx).before args s = true) : ∃ a : Nat, vk_R own k tx a s := by
  obtain ⟨-, -, -, a, -, -, -, -, -, hev⟩ := Cond.stringRef_spec hc h
  exact ⟨a, vk_R.of h hev⟩
set_option maxHeartbeats 4000000 in
set_option maxRecDepth 100000 in
/-- what is known at the law's entry -/
theorem law_G {args : Array Value} {s : State} (hts0 : ∀ w ∈ lw_tbl, w.before args s = true) (hgv : (Jvm.Cond.and given_1 narrow_1).before args s = true) : ∃ G : gG, va_K (gD G) cls9 (gT G) s ∧ gZ G (fun q : Nat => s.heap.size ≤ q) s s.heap := by
  have htb : ∀ w ∈ TB, w.before args s = true := fun w h => hts0 w (List.mem_filter.mp h).1
  have hs := flat_of_before _ hgv
  have hnA : ∀ a : Nat, a < s.heap.size → ¬ (fun q : Nat => s.heap.size ≤ q) a := fun a h => Nat.not_le.mpr h
  obtain ⟨c0, i0, hK0⟩ := u_known (C := "java/util/ArrayList") (T := T_AL) (N := 3) (n := 3) htb in_AL (htb _ tw_36)
  obtain ⟨c1, i1, hK1⟩ := u_known (C := "PageMaker$Frame") (T := T_FR) (N := 3) (n := 3) htb in_FR (htb _ tw_62)
  obtain ⟨c2, i2, hK2⟩ := u_known (C := "PageMaker$OpenPage") (T := T_OP) (N := 8) (n := 8) htb in_OP (htb _ tw_85)
  obtain ⟨c3, i3, hK3⟩ := u_known (C := "PageMaker$Totals") (T := T_TO) (N := 4) (n := 4) htb in_TO (htb _ tw_91)
  obtain ⟨c4, i4, hK4⟩ := u_known (C := "PageMaker") (T := T_PM) (N := 4) (n := 4) htb in_PM (htb _ tw_28)
  obtain ⟨c5, i5, hK5⟩ := u_known (C := "PageMaker$Box") (T := T_BX) (N := 2) (n := 2) htb in_BX (htb _ tw_299)
  obtain ⟨c6, i6, hK6⟩ := u_known (C := "PageMaker$Glue") (T := T_GL) (N := 4) (n := 4) htb in_GL (htb _ tw_549)
  obtain ⟨c7, i7, hK7⟩ := u_known (C := "PageMaker$Kern") (T := T_KE) (N := 1) (n := 1) htb in_KE (htb _ tw_575)
  obtain ⟨c8, i8, hK8⟩ := u_known (C := "PageMaker$Penalty") (T := T_PE) (N := 1) (n := 1) htb in_PE (htb _ tw_593)
  obtain ⟨c9, i9, hK9⟩ := u_known (C := "PageMaker$EndedPage") (T := T_EP) (N := 9) (n := 9) htb in_EP (htb _ tw_447)
  obtain ⟨c10, i10, hK10⟩ := u_known (C := "PageMakerModel") (T := T_MD) (N := 26) (n := 26) htb in_MD (htb _ tw_673)
  obtain ⟨cI, kI, pI, hI1, hI2, hI3⟩ := Cond.arrayClass_spec (htb _ tw_761)
  obtain ⟨cJ, kJ, pJ, hJ1, hJ2, hJ3⟩ := Cond.arrayClass_spec (htb _ tw_121)
  obtain ⟨pO, cO, kO, hO1, -, hO2, hO3, hO4⟩ := Cond.arrayOver_spec (hts0 _ (tl_2 131 rfl))
  obtain ⟨mi, hmi⟩ := va_Mi.of (C := "[Ljava/lang/Object;") (hs (.isRef (.mirror "[Ljava/lang/Object;")) (by decide +kernel))
  have hpm : s.vm.findClass "PageMaker" = some c4 := hK4.2.1
  obtain ⟨a49, hs49⟩ := law_str hpm (hts0 _ (tl_2 2 rfl))
  obtain ⟨a54, hs54⟩ := law_str hpm (hts0 _ (tl_2 37 rfl))
  obtain ⟨a190, hs190⟩ := law_str hpm (hts0 _ (tl_2 51 rfl))
  obtain ⟨a68, hs68⟩ := law_str hpm (hts0 _ (tl_3 67 rfl))
  obtain ⟨a70, hs70⟩ := law_str hpm (hts0 _ (tl_3 68 rfl))
  obtain ⟨a77, hs77⟩ := law_str hpm (hts0 _ (tl_3 94 rfl))
  obtain ⟨a86, hs86⟩ := law_str hpm (hts0 _ (tl_3 112 rfl))
  obtain ⟨a193, hs193⟩ := law_str hpm (hts0 _ (tl_3 144 rfl))
  obtain ⟨a129, hs129⟩ := law_str hpm (hts0 _ (tl_3 151 rfl))
  obtain ⟨a164, hs164⟩ := law_str hpm (hts0 _ (tl_3 175 rfl))
  obtain ⟨a166, hs166⟩ := law_str hpm (hts0 _ (tl_3 183 rfl))
  obtain ⟨a184, hs184⟩ := law_str hpm (hts0 _ (tl_3 191 rfl))
  obtain ⟨dE, hev, hT⟩ := va_Tof (tm := (.static "java/util/ArrayList" "DEFAULTCAPACITY_EMPTY_ELEMENTDATA" "[Ljava/lang/Object;")) (ty := .object "java/lang/Object") (N := 0) (f := fun _ => .null) (A := (fun q : Nat => s.heap.size ≤ q)) (by decide) (hs (.arrayOf (.static "java/util/ArrayList" "DEFAULTCAPACITY_EMPTY_ELEMENTDATA" "[Ljava/lang/Object;") (.object "java/lang/Object")) (by decide +kernel)) (law_eqi (hs (.eq (.length (.static "java/util/ArrayList" "DEFAULTCAPACITY_EMPTY_ELEMENTDATA" "[Ljava/lang/Object;")) (.int 0)) (by decide +kernel))) (fun j h => absurd h (Nat.not_lt_zero _)) hnA
  refine ⟨((fun k => ([c0, c1, c2, c3, c4, c5, c6, c7, c8, c9, c10] : List ClassId).getD k c0, fun k => ([i0, i1, i2, i3, i4, i5, i6, i7, i8, i9, i10] : List (Nat → Nat)).getD k i0), (cI, cJ, cO), (dE, mi, fun k => if k = 49 then a49 else if k = 54 then a54 else if k = 190 then a190 else if k = 68 then a68 else if k = 70 then a70 else if k = 77 then a77 else if k = 86 then a86 else if k = 193 then a193 else if k = 129 then a129 else if k = 164 then a164 else if k = 166 then a166 else if k = 184 then a184 else 0)), ⟨fun k q hq => ?_, fun k q hq => ?_⟩, nb_of hts0, fun q hq => ?_, va_AO.of (hts0 _ (tl_2 131 rfl)), hmi, fun q hq => ?_, va_Zref (hts0 _ (tl_1 48 rfl)) (htb _ tw_4) hev hnA, hT, vx_Zqof (hts0 _ (tl_1 228 rfl)) (htb _ tw_9) (hs _ (by decide +kernel)) hnA, vx_Zqof (hts0 _ (tl_1 230 rfl)) (htb _ tw_9) (hs _ (by decide +kernel)) hnA⟩
  · match k, hq with
    | 0, hq => cases hq; exact hK0
    | 1, hq => cases hq; exact hK1
    | 2, hq => cases hq; exact hK2
    | 3, hq => cases hq; exact hK3
    | 4, hq => cases hq; exact hK4
    | 5, hq => cases hq; exact hK5
    | 6, hq => cases hq; exact hK6
    | 7, hq => cases hq; exact hK7
    | 8, hq => cases hq; exact hK8
    | 9, hq => cases hq; exact hK9
    | 10, hq => cases hq; exact hK10
    | k + 11, hq => simp [cls9] at hq
  · match k, hq with
    | 0, hq => cases hq; exact ⟨fun N z => ⟨(fun k h => by cases h), kI, hI2, pI, hI3⟩, hI1⟩
    | 1, hq => cases hq; exact ⟨fun N z => ⟨(fun k h => by cases h), kJ, hJ2, pJ, hJ3⟩, hJ1⟩
    | 2, hq => cases hq; exact ⟨fun N z => ⟨(fun k h => by cases h), kO, hO2, pO, hO3⟩, kO, pO, hO2, hO3, hO1, hO4⟩
    | k + 3, hq => simp at hq
  · refine va_Nc.of (hs (.not (.castable q.1 q.2)) ?_)
    have hall : ∀ q ∈ NC, Cond.not (.castable q.1 q.2) ∈ flatC (Jvm.Cond.and given_1 narrow_1) := by decide +kernel
    exact hall q hq
  · simp only [NS, List.mem_cons, List.not_mem_nil, or_false] at hq
    rcases hq with rfl | rfl | rfl | rfl | rfl | rfl | rfl | rfl | rfl | rfl | rfl | rfl
    · exact hs49
    · exact hs54
    · exact hs190
    · exact hs68
    · exact hs70
    · exact hs77
    · exact hs86
    · exact hs193
    · exact hs129
    · exact hs164
    · exact hs166
    · exact hs184
