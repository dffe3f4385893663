/-! CONTRACTS OVER POOLS: their start (pz_Pc), their end (pz_B), the entry of a method, its returns, calls. Z is what is known of static fields outside the pool. -/
section PZC
abbrev pz_U : Type := List Nat × (Nat → va_E)
abbrev pz_Zt : Type := (Nat → Prop) → State → Heap → Prop
def pz_Zok (Z : pz_Zt) : Prop := (∀ (A : Nat → Prop) (u U : State) (H : Heap), u.WarmedH U.vm → Z A u H → Z A U H) ∧ (∀ (A : Nat → Prop) (U : State) (H H1 : Heap), Z A U H → (∀ a : Nat, a < H.size → ¬ A a → H1[a]? = H[a]?) → Z A U H1) ∧ (∀ (A B : Nat → Prop) (U : State) (H : Heap), Z A U H → (∀ q, B q → A q) → Z B U H)
def pz_B (D : va_G) (cl : List vw_C) (tys : List (ClassId × FieldType)) (A : Nat → Prop) (u : pz_U) (t : State) : Prop := va_P D cl (va_pl u.1 u.2) t.heap ∧ va_K D cl tys t ∧ va_D A (va_pl u.1 u.2)
def pz_Pc (Z : pz_Zt) (D : va_G) (cl : List vw_C) (tys : List (ClassId × FieldType)) (L : List Nat) (f : Nat → va_E) (sz : Nat) (av : List Value) : Array Value → State → Prop := va_Pc av (fun U => U.heap.size = sz ∧ va_P D cl (va_pl L f) U.heap ∧ va_K D cl tys U ∧ va_D (fun _ => True) (va_pl L f) ∧ Z (va_A (va_pl L f) sz) U U.heap)
theorem pz_blind {Z : pz_Zt} (hZ : pz_Zok Z) {D : va_G} {cl : List vw_C} {tys : List (ClassId × FieldType)} {L : List Nat} {f : Nat → va_E} {sz : Nat} {av : List Value} : FrameBlind (pz_Pc Z D cl tys L f sz av) := fun a U g mk q => by
  obtain ⟨q0, q1, qP, qK, qD, qZ⟩ := q
  exact ⟨q0, q1, qP, va_K.moved (u := U) (U := U.calling g mk a) (Vm.Alike.refl U.vm) qK, qD, hZ.1 _ U (U.calling g mk a) _ (State.WarmedH.refl U) qZ⟩
end PZC
section PZD
variable {p : Program} {l : Launch} {e : Env} {R : Room} {s : State} {m : MethodId} {args : Array Value} {below : List Frame} {meth : Method} {c : Code} {H : Heap} {locs : List Loc} {cells slots : Nat} {Q : State → Prop}
variable {cc : ByteArray} {pc : Nat} {ls : Array Slot} {rest st0 : List Value} {D : va_G} {cl : List vw_C} {A : Nat → Prop} {a : Nat} {tys : List (ClassId × FieldType)} {X : va_W} {L L1 : List Nat} {f f1 : Nat → va_E} {H0 : Heap} {Z : pz_Zt} {sz mc ms : Nat} {av : List Value} {aa : Array Value}
theorem pz_sub (hD : va_D A (X ++ va_pl L f)) (hS : va_S A H0 H locs) (hA : ∀ q, H0.size ≤ q → A q) : ∀ q, va_A (va_pl L f) H.size q → A q := va_freeP (cx := []) hD hS hA [] rfl
theorem pz_pre (hZ : pz_Zok Z) (hK : va_K D cl tys s) (hP : va_P D cl (X ++ va_pl L f) H) (hD : va_D A (X ++ va_pl L f)) (hS : va_S A s.heap H locs) (hA : ∀ q, s.heap.size ≤ q → A q) (hz : Z A s s.heap) : PreS s H (pz_Pc Z D cl tys L f H.size av) av := by
  refine ⟨pz_blind hZ, fun U hU hW => ⟨rfl, by rw [hU], ?_, va_K.moved hW.alike hK, ?_, ?_⟩⟩
  · rw [hU]
    exact hP.part (cx := []) [] rfl
  · exact (hD.part (cx := []) [] rfl rfl).weaken (fun _ _ _ _ => trivial)
  · have h1 : Z A s H := hZ.2.1 _ _ _ _ hz hS.2.1
    have h2 : Z (va_A (va_pl L f) H.size) s H := hZ.2.2 _ _ _ _ h1 (pz_sub hD hS hA)
    rw [hU]
    exact hZ.1 _ _ _ _ hW h2
theorem pz_preV {C : String} {b : Nat} {As : List Value} (hZ : pz_Zok Z) (hK : va_K D cl tys s) (hP : va_P D cl (X ++ va_pl L f) H) (hD : va_D A (X ++ va_pl L f)) (hS : va_S A s.heap H locs) (hA : ∀ q, s.heap.size ≤ q → A q) (hz : Z A s s.heap) {ci : Nat} {r : vw_C} {fs : List Value} (hc : cl[ci]? = some r) (hC : r.1 = C) (hb : b ∈ L) (hf : f b = .inr (ci, fs)) : PreV s H C b (pz_Pc Z D cl tys L f H.size (.ref b :: As)) As := by
  subst hC
  exact ⟨pz_blind hZ, pz_recv hK hP hc hb hf, (pz_pre (av := .ref b :: As) hZ hK hP hD hS hA hz).2⟩
theorem pz_met {y : MethodName} {ws ws' : List Cond} {rm : Room} {Qc : Array Value → State → Outcome → State → Prop} {free : Addr → Prop} {maxL : Nat} {ret : Option FieldType} (hy : plainName y.cls = true) (hw : ws = Cond.code y cc maxL ret :: ws') (hlen : (lg_sl av).length ≤ maxL)
    (body : ∀ (p : Program) (e : Env) (s : State) (m : MethodId) (below : List Frame) (meth : Method) (c : Code) (ls : Array Slot), p.tables.exec = Jvm.exec → c.code = cc → meth.sig.returnType = ret → c.maxLocals = maxL → (∀ w ∈ ws, w.before av.toArray s = true) → s.vm.findClass y.cls = some m.cls → meth.locks = false → meth.name = y.name → s.heap.size = sz → va_K D cl tys s → va_P D cl ([] ++ va_pl L f) s.heap → va_D (va_A (va_pl L f) sz) ([] ++ va_pl L f) → va_S (va_A (va_pl L f) sz) s.heap s.heap [] → (∀ q, s.heap.size ≤ q → va_A (va_pl L f) sz q) → Z (va_A (va_pl L f) sz) s s.heap → lv_has ls maxL (lv_args 0 av) →
      W p l e rm s m av.toArray below meth c s.heap [] 0 0 (MQ below Qc av.toArray s mc ms free) (F0 m 0 ls [])) : Met l y ws rm (pz_Pc Z D cl tys L f sz av) Qc mc ms free := by
  refine Met.ofW (cc := cc) (maxL := maxL) (ret := ret) hy hw ?_
  intro p e s m args below meth c s₁ B hml hv
  obtain ⟨rfl, hsz, hP, hK, hD0, hz⟩ := hv
  rw [lg_entry_eq]
  exact body p e s m below meth c _ B.exec B.bytes B.returns hml (atoms_spec (ws := ws) B.pre) (findClass_of_methodNamed B.named) B.notSynchronized (name_of_methodNamed B.named B.method).1 hsz hK hP hD0.self va_S.rf (fun q h => Or.inr (by rw [← hsz]; exact h)) hz (lv_entry av hlen)
/-- a method that reads no heap -/
theorem pz_metP {y : MethodName} {ws ws' : List Cond} {rm : Room} {Qc : Array Value → State → Outcome → State → Prop} {free : Addr → Prop} {maxL : Nat} {ret : Option FieldType} (hy : plainName y.cls = true) (hw : ws = Cond.code y cc maxL ret :: ws') (hlen : (lg_sl av).length ≤ maxL)
    (body : ∀ (p : Program) (e : Env) (s : State) (m : MethodId) (below : List Frame) (meth : Method) (c : Code) (ls : Array Slot), p.tables.exec = Jvm.exec → c.code = cc → meth.sig.returnType = ret → c.maxLocals = maxL → (∀ w ∈ ws, w.before av.toArray s = true) → s.vm.findClass y.cls = some m.cls → meth.locks = false → lv_has ls maxL (lv_args 0 av) →
      W p l e rm s m av.toArray below meth c s.heap [] 0 0 (MQ below Qc av.toArray s mc ms free) (F0 m 0 ls [])) : Met l y ws rm (fun v _ => v = av.toArray) Qc mc ms free := by
  refine Met.ofW (cc := cc) (maxL := maxL) (ret := ret) hy hw ?_
  intro p e s m args below meth c s₁ B hml hv
  subst hv
  rw [lg_entry_eq]
  exact body p e s m below meth c _ B.exec B.bytes B.returns hml (atoms_spec (ws := ws) B.pre) (findClass_of_methodNamed B.named) B.notSynchronized (lv_entry av hlen)
theorem pz_preP {As : List Value} : PreS s H (fun v _ => v = As.toArray) As := ⟨fun _ _ _ _ q => q, fun _ _ _ => rfl⟩
theorem pz_vret {post : pz_U → Prop} (hexec : p.tables.exec = Jvm.exec) (hb : c.code = cc) (hr : meth.sig.returnType = none) (hlocks : meth.locks = false) (hK : va_K D cl tys s) (hP : va_P D cl ([] ++ va_pl L1 f1) H) (hD : va_D A ([] ++ va_pl L1 f1)) (hS : va_S A s.heap H locs) (hc : cells ≤ mc) (hs : slots ≤ ms) (hp : post (L1, f1)) (hdg : decode cc pc = .ok (.return_, 1)) :
    W p l e R s m args below meth c H locs cells slots (MQ below (va_Qv post (pz_B D cl tys A) A) args s mc ms A) (F0 m pc ls []) := by
  refine W.widen (k := mc) (n := ms) hc hs ?_
  exact W.vret hexec hb hr (fun t ht hW => ⟨⟨(L1, f1), rfl, hp, by rw [ht]; exact hP, va_K.moved hW.alike hK, hD⟩, hS.F ht⟩) hS.2.2 hdg
theorem pz_iret {post : Int32 → pz_U → Prop} {v : Int32} {ty : FieldType} (hexec : p.tables.exec = Jvm.exec) (hb : c.code = cc) (hr : meth.sig.returnType = some ty) (hn : narrow ty (.int v) = .int v) (hlocks : meth.locks = false) (hK : va_K D cl tys s) (hP : va_P D cl ([] ++ va_pl L1 f1) H) (hD : va_D A ([] ++ va_pl L1 f1)) (hS : va_S A s.heap H locs) (hc : cells ≤ mc) (hs : slots ≤ ms) (hp : post v (L1, f1)) (hdg : decode cc pc = .ok (.ireturn, 1)) :
    W p l e R s m args below meth c H locs cells slots (MQ below (va_Qi post (pz_B D cl tys A) A) args s mc ms A) (F0 m pc ls [.int v]) := by
  refine W.widen (k := mc) (n := ms) hc hs ?_
  exact W.zret hexec hb hr hn (fun t ht hW => ⟨⟨v, (L1, f1), rfl, hp, by rw [ht]; exact hP, va_K.moved hW.alike hK, hD⟩, hS.F ht⟩) hS.2.2 hdg
theorem pz_lret {post : Int64 → pz_U → Prop} {v : Int64} (hexec : p.tables.exec = Jvm.exec) (hb : c.code = cc) (hr : meth.sig.returnType = some .long) (hlocks : meth.locks = false) (hK : va_K D cl tys s) (hP : va_P D cl ([] ++ va_pl L1 f1) H) (hD : va_D A ([] ++ va_pl L1 f1)) (hS : va_S A s.heap H locs) (hc : cells ≤ mc) (hs : slots ≤ ms) (hp : post v (L1, f1)) (hdg : decode cc pc = .ok (.lreturn, 1)) :
    W p l e R s m args below meth c H locs cells slots (MQ below (va_Ql post (pz_B D cl tys A) A) args s mc ms A) (F0 m pc ls [.long v]) := by
  refine W.widen (k := mc) (n := ms) hc hs ?_
  exact W.lret hexec hb hr (fun t ht hW => ⟨⟨v, (L1, f1), rfl, hp, by rw [ht]; exact hP, va_K.moved hW.alike hK, hD⟩, hS.F ht⟩) hS.2.2 hdg
/-- an answer that is a reference: which one comes with the pool -/
def pz_BR (D : va_G) (cl : List vw_C) (tys : List (ClassId × FieldType)) (A : Nat → Prop) (u : Nat × pz_U) (r : Nat) (t : State) : Prop := r = u.1 ∧ pz_B D cl tys A u.2 t
theorem pz_aret {post : Nat × pz_U → Prop} {v : Nat} {rt : FieldType} (hexec : p.tables.exec = Jvm.exec) (hb : c.code = cc) (hr : meth.sig.returnType = some rt) (hrt : (∃ n, rt = .object n) ∨ ∃ t, rt = .array t) (hlocks : meth.locks = false) (hK : va_K D cl tys s) (hP : va_P D cl ([] ++ va_pl L1 f1) H) (hD : va_D A ([] ++ va_pl L1 f1)) (hS : va_S A s.heap H locs) (hc : cells ≤ mc) (hs : slots ≤ ms) (hp : post (v, L1, f1)) (hdg : decode cc pc = .ok (.areturn, 1)) :
    W p l e R s m args below meth c H locs cells slots (MQ below (va_Qr post (pz_BR D cl tys A) A) args s mc ms A) (F0 m pc ls [.ref v]) := by
  refine W.widen (k := mc) (n := ms) hc hs ?_
  exact W.aret hexec hb hr hrt (Or.inr ⟨v, rfl⟩) (fun t ht hW => ⟨⟨(v, L1, f1), v, rfl, hp, rfl, by rw [ht]; exact hP, va_K.moved hW.alike hK, hD⟩, hS.F ht⟩) hS.2.2 hdg
/-- answers of methods that change nothing -/
theorem pz_iretS {post : Int32 → Prop} {v : Int32} {ty : FieldType} (hexec : p.tables.exec = Jvm.exec) (hb : c.code = cc) (hr : meth.sig.returnType = some ty) (hn : narrow ty (.int v) = .int v) (hlocks : meth.locks = false) (hp : post v) (hdg : decode cc pc = .ok (.ireturn, 1)) :
    W p l e R s m args below meth c s.heap [] 0 0 (MQ below (vp_Si post) args s 0 0 (fun _ => False)) (F0 m pc ls [.int v]) :=
  W.zret hexec hb hr hn (fun t ht hW => ⟨v, rfl, hp, ht⟩) (fun q h => by cases h) hdg
theorem pz_lretS {post : Int64 → Prop} {v : Int64} (hexec : p.tables.exec = Jvm.exec) (hb : c.code = cc) (hr : meth.sig.returnType = some .long) (hlocks : meth.locks = false) (hp : post v) (hdg : decode cc pc = .ok (.lreturn, 1)) :
    W p l e R s m args below meth c s.heap [] 0 0 (MQ below (vp_Sl post) args s 0 0 (fun _ => False)) (F0 m pc ls [.long v]) :=
  W.lret hexec hb hr (fun t ht hW => ⟨v, rfl, hp, ht⟩) (fun q h => by cases h) hdg
theorem pz_aretS {post : Option Nat → Prop} {r : Option Nat} {rt : FieldType} (hexec : p.tables.exec = Jvm.exec) (hb : c.code = cc) (hr : meth.sig.returnType = some rt) (hrt : (∃ n, rt = .object n) ∨ ∃ t, rt = .array t) (hlocks : meth.locks = false) (hp : post r) (hdg : decode cc pc = .ok (.areturn, 1)) :
    W p l e R s m args below meth c s.heap [] 0 0 (MQ below (va_Sq post) args s 0 0 (fun _ => False)) (F0 m pc ls [va_rf r]) :=
  W.aret hexec hb hr hrt (va_rf_or r) (fun t ht hW => ⟨r, rfl, hp, ht⟩) (fun q h => by cases h) hdg
/-- behind a call that had the pool -/
theorem pz_join {u : pz_U} {t : State} {H1 : Heap} (hP : va_P D cl (X ++ va_pl L f) H) (hD : va_D A (X ++ va_pl L f)) (hF : ∀ q, va_A (va_pl L f) H.size q → A q) (ht : t.heap = H1) (hB : pz_B D cl tys (va_A (va_pl L f) H.size) u t) (hk : ∀ q : Nat, q < H.size → ¬ va_A (va_pl L f) H.size q → H1[q]? = H[q]?) : va_P D cl (X ++ va_pl u.1 u.2) H1 ∧ va_D A (X ++ va_pl u.1 u.2) := by
  obtain ⟨hP1, -, hD1⟩ := hB
  rw [ht] at hP1
  have h := va_joinP (X := X) (cx := []) (wr := X) (rx := []) hP hD [] (List.range X.length) rfl (pz_rng X) (pz_nd _ List.nodup_range) (fun i _ h => by cases h) hk hF hP1 hD1
  rw [List.append_nil] at h
  exact h
theorem pz_cv {post : pz_U → Prop} (hr : va_Run p l e R s m args below meth c H locs cells slots mc ms (F0 m pc ls st0) rest (va_Qv post (pz_B D cl tys (va_A (va_pl L f) H.size)) (va_A (va_pl L f) H.size) aa) (va_A (va_pl L f) H.size)) (hP : va_P D cl (X ++ va_pl L f) H) (hD : va_D A (X ++ va_pl L f)) (hS : va_S A H0 H locs) (hA : ∀ q, H0.size ≤ q → A q)
    (kk : ∀ (L1 : List Nat) (f1 : Nat → va_E) (H1 : Heap) (locs1 : List Loc), post (L1, f1) → va_P D cl (X ++ va_pl L1 f1) H1 → va_D A (X ++ va_pl L1 f1) → va_S A H0 H1 locs1 → W p l e R s m args below meth c H1 locs1 (cells + mc) (slots + ms) Q (F0 m (pc + 3) ls rest)) : W p l e R s m args below meth c H locs cells slots Q (F0 m pc ls st0) := by
  have hF := pz_sub hD hS hA
  refine va_callv hr hS (fun q _ h => hF q h) hF (fun u t H1 locs1 ht hvm hw hB hz1 hk1 hS1 => ?_)
  obtain ⟨h1, h2⟩ := pz_join hP hD hF ht hB hk1
  exact kk u.1 u.2 H1 locs1 hw h1 h2 hS1
theorem pz_ci {post : Int32 → pz_U → Prop} (hr : va_Run p l e R s m args below meth c H locs cells slots mc ms (F0 m pc ls st0) rest (va_Qi post (pz_B D cl tys (va_A (va_pl L f) H.size)) (va_A (va_pl L f) H.size) aa) (va_A (va_pl L f) H.size)) (hP : va_P D cl (X ++ va_pl L f) H) (hD : va_D A (X ++ va_pl L f)) (hS : va_S A H0 H locs) (hA : ∀ q, H0.size ≤ q → A q)
    (kk : ∀ (r : Int32) (L1 : List Nat) (f1 : Nat → va_E) (H1 : Heap) (locs1 : List Loc), post r (L1, f1) → va_P D cl (X ++ va_pl L1 f1) H1 → va_D A (X ++ va_pl L1 f1) → va_S A H0 H1 locs1 → W p l e R s m args below meth c H1 locs1 (cells + mc) (slots + ms) Q (F0 m (pc + 3) ls (.int r :: rest))) : W p l e R s m args below meth c H locs cells slots Q (F0 m pc ls st0) := by
  have hF := pz_sub hD hS hA
  refine va_calli hr hS (fun q _ h => hF q h) hF (fun r u t H1 locs1 ht hvm hw hB hz1 hk1 hS1 => ?_)
  obtain ⟨h1, h2⟩ := pz_join hP hD hF ht hB hk1
  exact kk r u.1 u.2 H1 locs1 hw h1 h2 hS1
theorem pz_cl {post : Int64 → pz_U → Prop} (hr : va_Run p l e R s m args below meth c H locs cells slots mc ms (F0 m pc ls st0) rest (va_Ql post (pz_B D cl tys (va_A (va_pl L f) H.size)) (va_A (va_pl L f) H.size) aa) (va_A (va_pl L f) H.size)) (hP : va_P D cl (X ++ va_pl L f) H) (hD : va_D A (X ++ va_pl L f)) (hS : va_S A H0 H locs) (hA : ∀ q, H0.size ≤ q → A q)
    (kk : ∀ (r : Int64) (L1 : List Nat) (f1 : Nat → va_E) (H1 : Heap) (locs1 : List Loc), post r (L1, f1) → va_P D cl (X ++ va_pl L1 f1) H1 → va_D A (X ++ va_pl L1 f1) → va_S A H0 H1 locs1 → W p l e R s m args below meth c H1 locs1 (cells + mc) (slots + ms) Q (F0 m (pc + 3) ls (.long r :: rest))) : W p l e R s m args below meth c H locs cells slots Q (F0 m pc ls st0) := by
  have hF := pz_sub hD hS hA
  refine va_calll hr hS (fun q _ h => hF q h) hF (fun r u t H1 locs1 ht hvm hw hB hz1 hk1 hS1 => ?_)
  obtain ⟨h1, h2⟩ := pz_join hP hD hF ht hB hk1
  exact kk r u.1 u.2 H1 locs1 hw h1 h2 hS1
theorem pz_cr {post : Nat × pz_U → Prop} (hr : va_Run p l e R s m args below meth c H locs cells slots mc ms (F0 m pc ls st0) rest (va_Qr post (pz_BR D cl tys (va_A (va_pl L f) H.size)) (va_A (va_pl L f) H.size) aa) (va_A (va_pl L f) H.size)) (hP : va_P D cl (X ++ va_pl L f) H) (hD : va_D A (X ++ va_pl L f)) (hS : va_S A H0 H locs) (hA : ∀ q, H0.size ≤ q → A q)
    (kk : ∀ (r : Nat) (L1 : List Nat) (f1 : Nat → va_E) (H1 : Heap) (locs1 : List Loc), post (r, L1, f1) → va_P D cl (X ++ va_pl L1 f1) H1 → va_D A (X ++ va_pl L1 f1) → va_S A H0 H1 locs1 → W p l e R s m args below meth c H1 locs1 (cells + mc) (slots + ms) Q (F0 m (pc + 3) ls (.ref r :: rest))) : W p l e R s m args below meth c H locs cells slots Q (F0 m pc ls st0) := by
  have hF := pz_sub hD hS hA
  refine va_callr hr hS (fun q _ h => hF q h) hF (fun u ra t H1 locs1 ht hvm hw hB hz1 hk1 hS1 => ?_)
  obtain ⟨rfl, hB⟩ := hB
  obtain ⟨h1, h2⟩ := pz_join hP hD hF ht hB hk1
  exact kk u.1 u.2.1 u.2.2 H1 locs1 hw h1 h2 hS1
end PZD
