/-! WHAT IS KNOWN OUTSIDE THE POOL (zz): words that the tables keep in their own way, classes that are not castable, the empty array of ArrayList, the statics of Throwable, the String constants. -/
def NBk : Cond → Bool
  | .castable _ _ => true
  | .declares _ => true
  | .methodLinkNest _ _ _ _ => true
  | _ => false
def NB : List Cond := lw_tbl.filter NBk
theorem nb_warm {w : Cond} (hk : NBk w = true) {s U : State} (hW : s.WarmedH U.vm) (h : va_Nw w s) : va_Nw w U := by
  cases w <;> first | exact va_Nw.warmC hW h | exact va_Nw.warmD hW h | exact va_Nw.warmM hW h | exact absurd (show false = true from hk) (by decide)
theorem nb_of {args : Array Value} {s : State} (hts : ∀ w ∈ lw_tbl, w.before args s = true) : ∀ w ∈ NB, va_Nw w s := fun w h => by
  have h2 := (List.mem_filter.mp h).2
  refine va_Nw.of ?_ (hts w (List.mem_filter.mp h).1)
  cases w <;> first | rfl | exact absurd (show false = true from h2) (by decide)
theorem nb_a1 {w : Cond} (i : Nat) (h : tables_1_1[i]? = some w) (g : NBk w = true) : w ∈ NB := List.mem_filter.mpr ⟨List.mem_append_right _ (List.mem_append_left _ (List.mem_of_getElem? h)), g⟩
theorem nb_a2 {w : Cond} (i : Nat) (h : tables_1_2[i]? = some w) (g : NBk w = true) : w ∈ NB := List.mem_filter.mpr ⟨List.mem_append_right _ (List.mem_append_right _ (List.mem_append_left _ (List.mem_of_getElem? h))), g⟩
theorem nb_a3 {w : Cond} (i : Nat) (h : tables_1_3[i]? = some w) (g : NBk w = true) : w ∈ NB := List.mem_filter.mpr ⟨List.mem_append_right _ (List.mem_append_right _ (List.mem_append_right _ (List.mem_append_left _ (List.mem_of_getElem? h)))), g⟩
theorem nb_a4 {w : Cond} (i : Nat) (h : tables_1_4[i]? = some w) (g : NBk w = true) : w ∈ NB := List.mem_filter.mpr ⟨List.mem_append_right _ (List.mem_append_right _ (List.mem_append_right _ (List.mem_append_right _ (List.mem_of_getElem? h)))), g⟩
theorem tn_92 : (Jvm.Cond.methodLinkNest "PageMaker$OpenPage" (11 : Nat) ({ cls := "PageMaker$Totals", name := "<init>", desc := "()V" } : Jvm.MethodName) "PageMaker") ∈ NB := nb_a1 92 rfl rfl
theorem tn_203 : (Jvm.Cond.castable "java/lang/IllegalArgumentException" "java/lang/IllegalArgumentException") ∈ NB := nb_a1 203 rfl rfl
theorem tn_204 : (Jvm.Cond.declares ({ cls := "java/lang/RuntimeException", name := "<init>", desc := "()V" } : Jvm.MethodName)) ∈ NB := nb_a1 204 rfl rfl
theorem tn_205 : (Jvm.Cond.declares ({ cls := "java/lang/RuntimeException", name := "<init>", desc := "(Ljava/lang/String;)V" } : Jvm.MethodName)) ∈ NB := nb_a1 205 rfl rfl
theorem tn_206 : (Jvm.Cond.declares ({ cls := "java/lang/Exception", name := "<init>", desc := "()V" } : Jvm.MethodName)) ∈ NB := nb_a1 206 rfl rfl
theorem tn_207 : (Jvm.Cond.declares ({ cls := "java/lang/Exception", name := "<init>", desc := "(Ljava/lang/String;)V" } : Jvm.MethodName)) ∈ NB := nb_a1 207 rfl rfl
theorem tn_208 : (Jvm.Cond.declares ({ cls := "java/lang/Throwable", name := "<init>", desc := "()V" } : Jvm.MethodName)) ∈ NB := nb_a1 208 rfl rfl
theorem tn_209 : (Jvm.Cond.declares ({ cls := "java/lang/Throwable", name := "<init>", desc := "(Ljava/lang/String;)V" } : Jvm.MethodName)) ∈ NB := nb_a1 209 rfl rfl
theorem tn_284 : (Jvm.Cond.castable "java/lang/UnsupportedOperationException" "java/lang/UnsupportedOperationException") ∈ NB := nb_a2 44 rfl rfl
theorem tn_303 : (Jvm.Cond.methodLinkNest "PageMaker$Box" (1 : Nat) ({ cls := "PageMaker$Item", name := "<init>", desc := "()V" } : Jvm.MethodName) "PageMaker") ∈ NB := nb_a2 63 rfl rfl
theorem tn_426 : (Jvm.Cond.methodLinkNest "PageMaker$Totals" (50 : Nat) ({ cls := "PageMaker", name := "badnessOf", desc := "(JJ)I" } : Jvm.MethodName) "PageMaker") ∈ NB := nb_a2 186 rfl rfl
theorem tn_436 : (Jvm.Cond.methodLinkNest "PageMaker$OpenPage" (69 : Nat) ({ cls := "PageMaker", name := "costOf", desc := "(II)I" } : Jvm.MethodName) "PageMaker") ∈ NB := nb_a2 196 rfl rfl
theorem tn_453 : (Jvm.Cond.methodLinkNest "PageMaker" (241 : Nat) ({ cls := "PageMaker$Totals", name := "<init>", desc := "()V" } : Jvm.MethodName) "PageMaker") ∈ NB := nb_a2 213 rfl rfl
theorem tn_466 : (Jvm.Cond.declares ({ cls := "PageMaker$Item", name := "addTo", desc := "(LPageMaker$Totals;LPageMaker$Frame;)V" } : Jvm.MethodName)) ∈ NB := nb_a2 226 rfl rfl
theorem tn_553 : (Jvm.Cond.methodLinkNest "PageMaker$Glue" (3 : Nat) ({ cls := "PageMaker$Item", name := "<init>", desc := "()V" } : Jvm.MethodName) "PageMaker") ∈ NB := nb_a3 73 rfl rfl
theorem tn_579 : (Jvm.Cond.methodLinkNest "PageMaker$Kern" (1 : Nat) ({ cls := "PageMaker$Item", name := "<init>", desc := "()V" } : Jvm.MethodName) "PageMaker") ∈ NB := nb_a3 99 rfl rfl
theorem tn_597 : (Jvm.Cond.methodLinkNest "PageMaker$Penalty" (1 : Nat) ({ cls := "PageMaker$Item", name := "<init>", desc := "()V" } : Jvm.MethodName) "PageMaker") ∈ NB := nb_a3 117 rfl rfl
theorem tn_617 : (Jvm.Cond.castable "java/lang/IndexOutOfBoundsException" "java/lang/IndexOutOfBoundsException") ∈ NB := nb_a3 137 rfl rfl
theorem tn_647 : (Jvm.Cond.methodLinkNest "PageMaker$EndedPage" (72 : Nat) ({ cls := "PageMaker", name := "proportion", desc := "(JJJ)J" } : Jvm.MethodName) "PageMaker") ∈ NB := nb_a3 167 rfl rfl
theorem tn_884 : (Jvm.Cond.castable "PageMaker$Box" "PageMaker$Item") ∈ NB := nb_a4 164 rfl rfl
theorem tn_885 : (Jvm.Cond.castable "PageMaker$Glue" "PageMaker$Item") ∈ NB := nb_a4 165 rfl rfl
theorem tn_886 : (Jvm.Cond.castable "PageMaker$Kern" "PageMaker$Item") ∈ NB := nb_a4 166 rfl rfl
theorem tn_887 : (Jvm.Cond.castable "PageMaker$Penalty" "PageMaker$Item") ∈ NB := nb_a4 167 rfl rfl
theorem tn_888 : (Jvm.Cond.castable "PageMaker$Penalty" "PageMaker$Penalty") ∈ NB := nb_a4 168 rfl rfl
theorem tn_889 : (Jvm.Cond.castable "PageMaker$Glue" "PageMaker$Glue") ∈ NB := nb_a4 169 rfl rfl
theorem tn_890 : (Jvm.Cond.castable "PageMaker$Box" "PageMaker$Box") ∈ NB := nb_a4 170 rfl rfl
theorem tn_891 : (Jvm.Cond.castable "PageMaker$Kern" "PageMaker$Kern") ∈ NB := nb_a4 171 rfl rfl
theorem tn_892 : (Jvm.Cond.castable "PageMaker$EndedPage" "PageMaker$EndedPage") ∈ NB := nb_a4 172 rfl rfl
theorem tn_895 : (Jvm.Cond.declares ({ cls := "java/lang/Object", name := "getClass", desc := "()Ljava/lang/Class;" } : Jvm.MethodName)) ∈ NB := nb_a4 175 rfl rfl
theorem tn_896 : (Jvm.Cond.castable "PageMaker" "java/lang/Object") ∈ NB := nb_a4 176 rfl rfl
theorem tn_897 : (Jvm.Cond.castable "PageMaker$Frame" "java/lang/Object") ∈ NB := nb_a4 177 rfl rfl
theorem tn_898 : (Jvm.Cond.castable "PageMaker$OpenPage" "java/lang/Object") ∈ NB := nb_a4 178 rfl rfl
theorem tn_899 : (Jvm.Cond.castable "PageMaker$Totals" "java/lang/Object") ∈ NB := nb_a4 179 rfl rfl
theorem tn_900 : (Jvm.Cond.castable "PageMakerModel" "java/lang/Object") ∈ NB := nb_a4 180 rfl rfl
theorem tn_901 : (Jvm.Cond.castable "PageMaker$Box" "java/lang/Object") ∈ NB := nb_a4 181 rfl rfl
theorem tn_902 : (Jvm.Cond.castable "PageMaker$EndedPage" "java/lang/Object") ∈ NB := nb_a4 182 rfl rfl
theorem tn_903 : (Jvm.Cond.castable "PageMaker$Glue" "java/lang/Object") ∈ NB := nb_a4 183 rfl rfl
theorem tn_904 : (Jvm.Cond.castable "PageMaker$Kern" "java/lang/Object") ∈ NB := nb_a4 184 rfl rfl
theorem tn_905 : (Jvm.Cond.castable "PageMaker$Penalty" "java/lang/Object") ∈ NB := nb_a4 185 rfl rfl
theorem tn_906 : (Jvm.Cond.castable "java/lang/String" "java/lang/Object") ∈ NB := nb_a4 186 rfl rfl
def NC : List (String × String) := [("java/lang/UnsupportedOperationException", "java/lang/IllegalArgumentException"), ("java/lang/IndexOutOfBoundsException", "java/lang/IllegalArgumentException"), ("java/lang/IllegalArgumentException", "java/lang/UnsupportedOperationException"), ("java/lang/IndexOutOfBoundsException", "java/lang/UnsupportedOperationException"), ("PageMaker$Box", "PageMaker$Penalty"), ("PageMaker$Glue", "PageMaker$Penalty"), ("PageMaker$Kern", "PageMaker$Penalty"), ("PageMaker$Box", "PageMaker$Glue"), ("PageMaker$Kern", "PageMaker$Glue"), ("PageMaker$Penalty", "PageMaker$Glue"), ("PageMaker$Glue", "PageMaker$Box"), ("PageMaker$Kern", "PageMaker$Box"), ("PageMaker$Penalty", "PageMaker$Box"), ("PageMaker$Box", "PageMaker$Kern"), ("PageMaker$Glue", "PageMaker$Kern"), ("PageMaker$Penalty", "PageMaker$Kern"), ("java/lang/IllegalArgumentException", "java/lang/IndexOutOfBoundsException"), ("java/lang/UnsupportedOperationException", "java/lang/IndexOutOfBoundsException")]
def NS : List (Nat × String) := [(49, "a frame needs sizes, its height and greatest depth not below 0"), (54, "a box needs a tag not below 0 and two sizes"), (190, "there are 2000 items"), (68, "glue needs sizes, its stretch and shrink not below 0"), (70, "the order of glue is 0 to 3"), (77, "a kern needs a size"), (86, "a penalty is -100000 to 100000"), (193, "no such page"), (129, "of a page 0 to 7 can be asked"), (164, "no box of this page"), (166, "no such item"), (184, "of the open page 0 to 9 can be asked")]
def zz (dE mi : Nat) (sa : Nat → Nat) : pz_Zt := fun A U H => (∀ w ∈ NB, va_Nw w U) ∧ (∀ q ∈ NC, va_Nc q.1 q.2 U) ∧ va_AO "java/lang/Object" U ∧ va_Mi "[Ljava/lang/Object;" mi U ∧ (∀ q ∈ NS, vk_R "PageMaker" q.1 q.2 (sa q.1) U) ∧ va_Z "java/util/ArrayList" "DEFAULTCAPACITY_EMPTY_ELEMENTDATA" "[Ljava/lang/Object;" (.ref dE) A U H ∧ va_T (.object "java/lang/Object") dE 0 (fun _ => .null) A U H ∧ vx_Zq Bundle.tN "UNASSIGNED_STACK" Bundle.steD A U H ∧ vx_Zq Bundle.tN "SUPPRESSED_SENTINEL" Bundle.listD A U H
theorem zz_ok (dE mi : Nat) (sa : Nat → Nat) : pz_Zok (zz dE mi sa) := by
  refine ⟨fun A u U H hW h => ?_, fun A U H H1 h hq => ?_, fun A B U H h hAB => ?_⟩
  · obtain ⟨h1, h2, h3, h4, h5, h6, h7, h8, h9⟩ := h
    exact ⟨fun w hw => nb_warm (List.mem_filter.mp hw).2 hW (h1 w hw), fun q hq => (h2 q hq).moved hW.alike, h3.moved hW.alike, h4.moved hW.alike, fun q hq => vk_R.warm hW (h5 q hq), h6.moved hW.alike, h7.moved hW.alike, h8.moved hW.alike, h9.moved hW.alike⟩
  · obtain ⟨h1, h2, h3, h4, h5, h6, h7, h8, h9⟩ := h
    exact ⟨h1, h2, h3, h4, h5, h6.kept hq, h7.kept hq, h8.kept hq, h9.kept hq⟩
  · obtain ⟨h1, h2, h3, h4, h5, h6, h7, h8, h9⟩ := h
    exact ⟨h1, h2, h3, h4, h5, h6.narrow hAB, h7.narrow hAB, h8.narrow hAB, h9.narrow hAB⟩

/-! contracts, short: G is (classes and slots, (int[], long[], Object[] as classes), (the empty array, the class object, the texts)) -/
abbrev gG : Type := va_G × (ClassId × ClassId × ClassId) × (Nat × Nat × (Nat → Nat))
abbrev gD (G : gG) : va_G := G.1
abbrev cI (G : gG) : ClassId := G.2.1.1
abbrev cJ (G : gG) : ClassId := G.2.1.2.1
abbrev cO (G : gG) : ClassId := G.2.1.2.2
abbrev gT (G : gG) : List (ClassId × FieldType) := [(cI G, .int), (cJ G, .long), (cO G, .object "java/lang/Object")]
abbrev gZ (G : gG) : pz_Zt := zz G.2.2.1 G.2.2.2.1 G.2.2.2.2
abbrev mP (G : gG) (L : List Nat) (f : Nat → va_E) (sz : Nat) (av : List Value) : Array Value → State → Prop := pz_Pc (gZ G) (gD G) cls9 (gT G) L f sz av
abbrev mA (L : List Nat) (f : Nat → va_E) (sz : Nat) : Nat → Prop := va_A (va_pl L f) sz
abbrev mV (l : Launch) (y : MethodName) (ws : List Cond) (rm : Room) (G : gG) (L : List Nat) (f : Nat → va_E) (sz : Nat) (av : List Value) (mc ms : Nat) (post : pz_U → Prop) : Prop := Met l y ws rm (mP G L f sz av) (va_Qv post (pz_B (gD G) cls9 (gT G) (mA L f sz)) (mA L f sz)) mc ms (mA L f sz)
abbrev mI (l : Launch) (y : MethodName) (ws : List Cond) (rm : Room) (G : gG) (L : List Nat) (f : Nat → va_E) (sz : Nat) (av : List Value) (mc ms : Nat) (post : Int32 → pz_U → Prop) : Prop := Met l y ws rm (mP G L f sz av) (va_Qi post (pz_B (gD G) cls9 (gT G) (mA L f sz)) (mA L f sz)) mc ms (mA L f sz)
abbrev mR (l : Launch) (y : MethodName) (ws : List Cond) (rm : Room) (G : gG) (L : List Nat) (f : Nat → va_E) (sz : Nat) (av : List Value) (mc ms : Nat) (post : Nat × pz_U → Prop) : Prop := Met l y ws rm (mP G L f sz av) (va_Qr post (pz_BR (gD G) cls9 (gT G) (mA L f sz)) (mA L f sz)) mc ms (mA L f sz)
abbrev sI (l : Launch) (y : MethodName) (ws : List Cond) (rm : Room) (G : gG) (L : List Nat) (f : Nat → va_E) (sz : Nat) (av : List Value) (post : Int32 → Prop) : Prop := Met l y ws rm (mP G L f sz av) (vp_Si post) 0 0 (fun _ => False)
abbrev sJ (l : Launch) (y : MethodName) (ws : List Cond) (rm : Room) (G : gG) (L : List Nat) (f : Nat → va_E) (sz : Nat) (av : List Value) (post : Int64 → Prop) : Prop := Met l y ws rm (mP G L f sz av) (vp_Sl post) 0 0 (fun _ => False)
abbrev sQ (l : Launch) (y : MethodName) (ws : List Cond) (rm : Room) (G : gG) (L : List Nat) (f : Nat → va_E) (sz : Nat) (av : List Value) (post : Option Nat → Prop) : Prop := Met l y ws rm (mP G L f sz av) (va_Sq post) 0 0 (fun _ => False)
abbrev pI (l : Launch) (y : MethodName) (ws : List Cond) (rm : Room) (av : List Value) (post : Int32 → Prop) : Prop := Met l y ws rm (fun v _ => v = av.toArray) (vp_Si post) 0 0 (fun _ => False)
abbrev pJ (l : Launch) (y : MethodName) (ws : List Cond) (rm : Room) (av : List Value) (post : Int64 → Prop) : Prop := Met l y ws rm (fun v _ => v = av.toArray) (vp_Sl post) 0 0 (fun _ => False)
/-! words of calls -/
theorem tb_good {c0 c2 : Cond} (h : c2 ∈ TB) : GoodIn (c0 :: TB) (c2 :: TB) := fun w hw => by
  rcases List.mem_cons.mp hw with rfl | hw
  · exact ⟨List.mem_cons_of_mem _ h, good_of_word (List.mem_filter.mp h).2⟩
  · exact ⟨List.mem_cons_of_mem _ hw, good_of_word (List.mem_filter.mp hw).2⟩
theorem tb_gs {c0 : Cond} {ws : List Cond} (h : ∀ w ∈ ws, w ∈ TB) : GoodIn (c0 :: TB) ws := fun w hw => ⟨List.mem_cons_of_mem _ (h w hw), good_of_word (List.mem_filter.mp (h w hw)).2⟩
theorem tb_V {c0 c2 : Cond} {own C : String} {idx : Nat} {y : MethodName} (h1 : .methodLink own idx y ∈ TB) (h2 : .instanceMethod y ∈ TB) (h3 : .selects C y y ∈ TB) (h4 : .initialized C ∈ TB) (h5 : c2 ∈ TB) : GoodIn (c0 :: TB) (wsV own idx C y (c2 :: TB)) := tb_gs (fun w h => by
  rcases List.mem_append.mp h with h | h
  · simp only [List.mem_cons, List.not_mem_nil, or_false] at h
    rcases h with rfl | rfl | rfl | rfl <;> assumption
  · rcases List.mem_cons.mp h with rfl | h <;> assumption)
theorem tb_S {c0 c2 : Cond} {own : String} {idx : Nat} {y : MethodName} (h1 : .methodLink own idx y ∈ TB) (h2 : .static y ∈ TB) (h4 : .initialized own ∈ TB) (h5 : c2 ∈ TB) : GoodIn (c0 :: TB) (wsS own idx y (c2 :: TB)) := tb_gs (fun w h => by
  rcases List.mem_append.mp h with h | h
  · simp only [List.mem_cons, List.not_mem_nil, or_false] at h
    rcases h with rfl | rfl | rfl <;> assumption
  · rcases List.mem_cons.mp h with rfl | h <;> assumption)
theorem tb_SS {c0 c2 : Cond} {own : String} {idx : Nat} {y : MethodName} (h1 : .methodLink own idx y ∈ TB) (h2 : .static y ∈ TB) (h4 : .initialized y.cls ∈ TB) (h5 : c2 ∈ TB) : GoodIn (c0 :: TB) (va_wsS own idx y (c2 :: TB)) := tb_gs (fun w h => by
  rcases List.mem_append.mp h with h | h
  · simp only [List.mem_cons, List.not_mem_nil, or_false] at h
    rcases h with rfl | rfl | rfl <;> assumption
  · rcases List.mem_cons.mp h with rfl | h <;> assumption)
