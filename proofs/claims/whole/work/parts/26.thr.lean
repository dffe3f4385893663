/-! METHODS THAT THROW: what is thrown, by its class; the pool is as it was -/
abbrev xT (G : gG) (L : List Nat) (f : Nat → va_E) (sz : Nat) (E9 : String) : String → State → State → Prop := vx_X (S := Unit) (fun _ => True) (fun E _ t => E = E9 ∧ pz_B (gD G) cls9 (gT G) (mA L f sz) (L, f) t) (mA L f sz)
/-- a method that throws E9 and changes nothing -/
abbrev mX (l : Launch) (y : MethodName) (ws : List Cond) (rm : Room) (G : gG) (L : List Nat) (f : Nat → va_E) (sz : Nat) (av : List Value) (E9 : String) : Prop := vx_Met l y ws rm (mP G L f sz av) (fun _ _ _ _ => False) (xT G L f sz E9) 1 6 (mA L f sz)
def xN : List String := ["java/lang/RuntimeException", "java/lang/Exception"]
theorem nb_use {args : Array Value} {s : State} (h : ∀ w ∈ NB, va_Nw w s) : ∀ w ∈ NB, w.before args s = true := fun w hw => by
  have h2 := (List.mem_filter.mp hw).2
  refine va_Nw.use ?_ (h w hw)
  cases w <;> first | rfl | exact absurd (show false = true from h2) (by decide)
theorem at_IAE1 : ∀ w ∈ (vx_atS "PageMaker" 51 "java/lang/IllegalArgumentException" xN).filter goodWord, w ∈ lw_tbl := by decide +kernel
theorem at_IAE2 : ∀ w ∈ (vx_atS "PageMaker" 51 "java/lang/IllegalArgumentException" xN).filter (fun w => !goodWord w), w ∈ NB := by decide +kernel
theorem at_IAE3 : ∀ w ∈ Cond.classLink "PageMaker" 47 "java/lang/IllegalArgumentException" :: Cond.initialized "java/lang/IllegalArgumentException" :: vx_atS "PageMaker" 51 "java/lang/IllegalArgumentException" xN, vx_ot w = true := by decide +kernel
theorem at_IOB1 : ∀ w ∈ (vx_atS "PageMaker" 131 "java/lang/IndexOutOfBoundsException" xN).filter goodWord, w ∈ lw_tbl := by decide +kernel
theorem at_IOB2 : ∀ w ∈ (vx_atS "PageMaker" 131 "java/lang/IndexOutOfBoundsException" xN).filter (fun w => !goodWord w), w ∈ NB := by decide +kernel
theorem at_IOB3 : ∀ w ∈ Cond.classLink "PageMaker" 127 "java/lang/IndexOutOfBoundsException" :: Cond.initialized "java/lang/IndexOutOfBoundsException" :: vx_atS "PageMaker" 131 "java/lang/IndexOutOfBoundsException" xN, vx_ot w = true := by decide +kernel
section PZX
variable {p : Program} {l : Launch} {e : Env} {R : Room} {s : State} {m : MethodId} {args : Array Value} {below : List Frame} {meth : Method} {c : Code} {H : Heap} {locs : List Loc} {cells slots : Nat} {Q : State → Prop}
variable {cc : ByteArray} {pc : Nat} {ls : Array Slot} {rest st0 : List Value} {A : Nat → Prop} {X : va_W} {L : List Nat} {f : Nat → va_E} {H0 : Heap} {sz mc ms : Nat} {av : List Value} {G : gG} {E9 : String}
theorem pz_metX {y : MethodName} {ws ws' : List Cond} {rm : Room} {Qc : Array Value → State → Outcome → State → Prop} {XC : String → State → State → Prop} {free : Addr → Prop} {maxL : Nat} {ret : Option FieldType} (hy : plainName y.cls = true) (hw : ws = Cond.code y cc maxL ret :: ws') (hlen : (lg_sl av).length ≤ maxL)
    (body : ∀ (p : Program) (e : Env) (s : State) (m : MethodId) (below : List Frame) (meth : Method) (c : Code) (ls : Array Slot), p.tables.exec = Jvm.exec → c.code = cc → meth.sig.returnType = ret → c.maxLocals = maxL → (∀ w ∈ ws, w.before av.toArray s = true) → s.vm.findClass y.cls = some m.cls → meth.locks = false → (∀ x ∈ c.exceptionTable.toList, False) → s.heap.size = sz → va_K (gD G) cls9 (gT G) s → va_P (gD G) cls9 ([] ++ va_pl L f) s.heap → va_D (mA L f sz) ([] ++ va_pl L f) → va_S (mA L f sz) s.heap s.heap [] → (∀ q, s.heap.size ≤ q → mA L f sz q) → gZ G (mA L f sz) s s.heap → lv_has ls maxL (lv_args 0 av) →
      W p l e rm s m av.toArray below meth c s.heap [] 0 0 (vx_MQ below Qc XC av.toArray s mc ms free) (F0 m 0 ls [])) : vx_Met l y ws rm (mP G L f sz av) Qc XC mc ms free := by
  refine vx_ofW (cc := cc) (maxL := maxL) (ret := ret) hy hw ?_
  intro p e s m args below meth c s₁ B hml ht hv
  obtain ⟨rfl, hsz, hP, hK, hD0, hz⟩ := hv
  rw [lg_entry_eq]
  exact body p e s m below meth c _ B.exec B.bytes B.returns hml (atoms_spec (ws := ws) B.pre) (findClass_of_methodNamed B.named) B.notSynchronized ht hsz hK hP hD0.self va_S.rf (fun q h => Or.inr (by rw [← hsz]; exact h)) hz (lv_entry av hlen)
theorem pz_xE (hK : va_K (gD G) cls9 (gT G) s) (hP : va_P (gD G) cls9 ([] ++ va_pl L f) H) (hD : va_D (mA L f sz) ([] ++ va_pl L f)) (hS : va_S (mA L f sz) s.heap H locs) (t : State) (ht : t.heap = H) (hvm : s.vm.Alike t.vm) : xT G L f sz E9 E9 s t := ⟨(), trivial, ⟨rfl, by rw [ht]; exact hP, va_K.moved hvm hK, hD⟩, hS.F ht⟩
/-- what a callee threw goes on -/
theorem pz_out {Qc : Array Value → State → Outcome → State → Prop} {ce : Cell} {q : Addr} (hnt : ∀ x ∈ c.exceptionTable.toList, False) (hlocks : meth.locks = false) (hK : va_K (gD G) cls9 (gT G) s) (hP : va_P (gD G) cls9 ([] ++ va_pl L f) H) (hD : va_D (mA L f sz) ([] ++ va_pl L f)) (hS : va_S (mA L f sz) s.heap H locs) (hcell : H[q]? = some ce) (hv : ce.vm = .none) (hcl : s.vm.findClass E9 = some ce.cls) (hc : cells ≤ mc) (hs : slots ≤ ms) :
    vx_W p l e R s m args below meth c H locs cells slots (vx_MQ below Qc (xT G L f sz E9) args s mc ms (mA L f sz)) (F0 m pc ls rest) q :=
  vx_out (fun x hx => (hnt x hx).elim) hlocks hcell hv hcl (fun t h1 h2 => pz_xE hK hP hD hS t h1 h2) hS.2.2 hc hs
/-- a call that throws -/
theorem pz_cx {aa : Array Value} (hr : vx_Run p l e R s m args below meth c H locs cells slots mc ms (F0 m pc ls st0) rest ((fun _ _ _ _ => False : Array Value → State → Outcome → State → Prop) aa) (xT G L f H.size E9) (mA L f H.size)) (hP : va_P (gD G) cls9 (X ++ va_pl L f) H) (hD : va_D A (X ++ va_pl L f)) (hS : va_S A H0 H locs) (hA : ∀ q, H0.size ≤ q → A q)
    (kx : ∀ (ce : Cell) (q9 : Addr) (H1 : Heap) (locs1 : List Loc), va_P (gD G) cls9 (X ++ va_pl L f) H1 → va_D A (X ++ va_pl L f) → va_S A H0 H1 locs1 → H1[q9]? = some ce → ce.vm = .none → s.vm.findClass E9 = some ce.cls → vx_W p l e R s m args below meth c H1 locs1 (cells + mc) (slots + ms) Q (F0 m pc ls rest) q9) : W p l e R s m args below meth c H locs cells slots Q (F0 m pc ls st0) := by
  have hF := pz_sub hD hS hA
  intro T hT X9
  rcases hr T hT X9 with ⟨v, st₀, t, T', L9, h0, X', hL, e1, e2, h, -⟩ | ⟨q, st₀, t, T', L9, E, ce, h0, X', hL, e1, e2, ⟨u, -, ⟨rfl, hB⟩, hF9⟩, hce, hcv, hcl, st⟩
  · exact h.elim
  · obtain ⟨k1, k2, k3⟩ := vx_keep h0 e1 hS (fun q _ h => hF q h) hF hL hF9
    obtain ⟨h1, h2⟩ := pz_join (u := (L, f)) hP hD hF e1.symm hB k2
    obtain ⟨t2, a1, b1⟩ := kx ce q T'.heap (locs ++ L9) h1 h2 k3 (by rw [e1]; exact hce) hcv hcl T' rfl X'
    exact ⟨t2, st.trans a1, b1⟩
theorem pz_P_grow {D : va_G} {cl : List vw_C} {ws : va_W} {H1 : Heap} (hP : va_P D cl ws H) (hk : ∀ q : Nat, q < H.size → H1[q]? = H[q]?) : va_P D cl ws H1 := hP.kept (fun k q h => hk q.1 (hP k q h).lt)
theorem pz_thr (is : Nat) (text : String) (ik ic : Nat) (hexec : p.tables.exec = Jvm.exec) (hb : c.code = cc) (hl9 : l.stackTraces = false) (hown : s.vm.findClass "PageMaker" = some m.cls) (hcls : Bundle.fit E9 = true) (htb : ∀ w ∈ TB, w.before args s = true) (hz : gZ G (mA L f sz) s s.heap) (hnt : ∀ x ∈ c.exceptionTable.toList, False) (hlocks : meth.locks = false) (hK : va_K (gD G) cls9 (gT G) s) (hP : va_P (gD G) cls9 ([] ++ va_pl L f) H) (hD : va_D (mA L f sz) ([] ++ va_pl L f)) (hS : va_S (mA L f sz) s.heap H locs)
    (hk : Cond.classLink "PageMaker" ik E9 ∈ TB) (hini : Cond.initialized E9 ∈ TB) (h1 : ∀ w ∈ (vx_atS "PageMaker" ic E9 xN).filter goodWord, w ∈ lw_tbl) (h2 : ∀ w ∈ (vx_atS "PageMaker" ic E9 xN).filter (fun w => !goodWord w), w ∈ NB) (h3 : ∀ w ∈ Cond.classLink "PageMaker" ik E9 :: Cond.initialized E9 :: vx_atS "PageMaker" ic E9 xN, vx_ot w = true) (hst : (is, text) ∈ NS)
    {Qc : Array Value → State → Outcome → State → Prop} {nL : Nat} (hml : c.maxLocals = nL) (hls : ls.size = nL) (d0 : decode cc pc = .ok (.new ik, 3)) (d3 : decode cc (pc + 3) = .ok (.dup, 1)) (d4 : decode cc (pc + 4) = .ok (.ldc is, 2)) (d6 : decode cc (pc + 6) = .ok (.invokespecial ic, 3)) (d9 : decode cc (pc + 9) = .ok (.athrow, 1))
    (hRf : 6 ≤ R.frames) (hRl : 82 ≤ R.locals) (hRc : cells + 1 ≤ R.cells) (hRs : slots + 6 ≤ R.slots) (hc : cells + 1 ≤ mc) (hs : slots + 6 ≤ ms) :
    W p l e R s m args below meth c H locs cells slots (vx_MQ below Qc (xT G L f sz E9) args s mc ms (mA L f sz)) (F0 m pc ls []) := by
  have hat : ∀ w ∈ vx_atS "PageMaker" ic E9 xN, w.before args s = true := vx_hat (fun w hw => htb w (List.mem_filter.mpr ⟨h1 w hw, (List.mem_filter.mp hw).2⟩)) h2 (nb_use hz.1)
  refine vx_throwS (own := "PageMaker") (cls := E9) (names := xN) hexec hb hl9 hown hcls (by decide +kernel) (htb _ hk) (htb _ hini) (hz.2.2.2.2.1 (is, text) hst) hat h3 hz.2.2.2.2.2.2.2.1 hz.2.2.2.2.2.2.2.2 hS (hls.trans hml.symm) d0 d3 d4 d6 d9 (fun x hx => (hnt x hx).elim) hRf (by show 0 + 82 ≤ R.locals; omega) hRc hRs hlocks ?_ hS.2.2 hc hs
  intro t hvm hz1 hk1
  refine ⟨(), trivial, ⟨rfl, ?_, va_K.moved hvm hK, hD⟩, Nat.le_trans hS.1 hz1, fun q q1 q2 => (hk1 q (Nat.lt_of_lt_of_le q1 hS.1)).trans (hS.2.1 q q1 q2)⟩
  exact pz_P_grow (ws := va_pl L f) hP hk1
end PZX
