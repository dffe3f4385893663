section
-- ===== PART A: goes FIRST, ahead of the names: the tables' words, and 'selects' of the private methods out of them =====
/-- a private method of a class that the tables say can be made, by its rows of tables_1 -/
def lw_okq (q : MethodName × Nat) : Prop := (q.1.cls ≠ "java/lang/invoke/MethodHandle" ∧ q.1.cls ≠ "java/lang/invoke/VarHandle") ∧ Cond.instantiable q.1.cls q.2 ∈ tables_1 ∧ Cond.privateMethod q.1 ∈ tables_1 ∧ Cond.instanceMethod q.1 ∈ tables_1
theorem lw_p0 : lw_okq (⟨"java/lang/Throwable", "fillInStackTrace", "(I)Ljava/lang/Throwable;"⟩, 6) := ⟨⟨by decide +kernel, by decide +kernel⟩, List.mem_of_getElem? (i := 240) (by decide +kernel), List.mem_of_getElem? (i := 238) (by decide +kernel), List.mem_of_getElem? (i := 239) (by decide +kernel)⟩
theorem lw_p1 : lw_okq (⟨"PageMaker", "needRoom", "()V"⟩, 4) := ⟨⟨by decide +kernel, by decide +kernel⟩, List.mem_of_getElem? (i := 28) (by decide +kernel), List.mem_of_getElem? (i := 279) (by decide +kernel), List.mem_of_getElem? (i := 280) (by decide +kernel)⟩
theorem lw_p2 : lw_okq (⟨"PageMaker", "comeIn", "(LPageMaker$Item;)I"⟩, 4) := ⟨⟨by decide +kernel, by decide +kernel⟩, List.mem_of_getElem? (i := 28) (by decide +kernel), List.mem_of_getElem? (i := 317) (by decide +kernel), List.mem_of_getElem? (i := 318) (by decide +kernel)⟩
theorem lw_p3 : lw_okq (⟨"java/util/ArrayList", "add", "(Ljava/lang/Object;[Ljava/lang/Object;I)V"⟩, 3) := ⟨⟨by decide +kernel, by decide +kernel⟩, List.mem_of_getElem? (i := 36) (by decide +kernel), List.mem_of_getElem? (i := 325) (by decide +kernel), List.mem_of_getElem? (i := 326) (by decide +kernel)⟩
theorem lw_p4 : lw_okq (⟨"java/util/ArrayList", "grow", "()[Ljava/lang/Object;"⟩, 3) := ⟨⟨by decide +kernel, by decide +kernel⟩, List.mem_of_getElem? (i := 36) (by decide +kernel), List.mem_of_getElem? (i := 329) (by decide +kernel), List.mem_of_getElem? (i := 330) (by decide +kernel)⟩
theorem lw_p5 : lw_okq (⟨"java/util/ArrayList", "grow", "(I)[Ljava/lang/Object;"⟩, 3) := ⟨⟨by decide +kernel, by decide +kernel⟩, List.mem_of_getElem? (i := 36) (by decide +kernel), List.mem_of_getElem? (i := 333) (by decide +kernel), List.mem_of_getElem? (i := 334) (by decide +kernel)⟩
theorem lw_p6 : lw_okq (⟨"PageMaker", "lookFrom", "(I)V"⟩, 4) := ⟨⟨by decide +kernel, by decide +kernel⟩, List.mem_of_getElem? (i := 28) (by decide +kernel), List.mem_of_getElem? (i := 382) (by decide +kernel), List.mem_of_getElem? (i := 383) (by decide +kernel)⟩
theorem lw_p7 : lw_okq (⟨"PageMaker", "isItem", "(I)Z"⟩, 4) := ⟨⟨by decide +kernel, by decide +kernel⟩, List.mem_of_getElem? (i := 28) (by decide +kernel), List.mem_of_getElem? (i := 387) (by decide +kernel), List.mem_of_getElem? (i := 388) (by decide +kernel)⟩
theorem lw_p8 : lw_okq (⟨"PageMaker", "breakEndsPage", "(ILPageMaker$Item;)Z"⟩, 4) := ⟨⟨by decide +kernel, by decide +kernel⟩, List.mem_of_getElem? (i := 28) (by decide +kernel), List.mem_of_getElem? (i := 406) (by decide +kernel), List.mem_of_getElem? (i := 407) (by decide +kernel)⟩
theorem lw_p9 : lw_okq (⟨"PageMaker", "endOpenPage", "()I"⟩, 4) := ⟨⟨by decide +kernel, by decide +kernel⟩, List.mem_of_getElem? (i := 28) (by decide +kernel), List.mem_of_getElem? (i := 443) (by decide +kernel), List.mem_of_getElem? (i := 444) (by decide +kernel)⟩
theorem lw_p10 : lw_okq (⟨"PageMaker", "totalsOf", "(LPageMaker$Frame;II)LPageMaker$Totals;"⟩, 4) := ⟨⟨by decide +kernel, by decide +kernel⟩, List.mem_of_getElem? (i := 28) (by decide +kernel), List.mem_of_getElem? (i := 449) (by decide +kernel), List.mem_of_getElem? (i := 450) (by decide +kernel)⟩
theorem lw_p11 : lw_okq (⟨"PageMaker", "takeIn", "(ILPageMaker$Item;)V"⟩, 4) := ⟨⟨by decide +kernel, by decide +kernel⟩, List.mem_of_getElem? (i := 28) (by decide +kernel), List.mem_of_getElem? (i := 526) (by decide +kernel), List.mem_of_getElem? (i := 527) (by decide +kernel)⟩
theorem lw_p12 : lw_okq (⟨"PageMaker", "endedPage", "(I)LPageMaker$EndedPage;"⟩, 4) := ⟨⟨by decide +kernel, by decide +kernel⟩, List.mem_of_getElem? (i := 28) (by decide +kernel), List.mem_of_getElem? (i := 612) (by decide +kernel), List.mem_of_getElem? (i := 613) (by decide +kernel)⟩
theorem lw_p13 : lw_okq (⟨"PageMakerModel", "append", "(IIIII)I"⟩, 26) := ⟨⟨by decide +kernel, by decide +kernel⟩, List.mem_of_getElem? (i := 673) (by decide +kernel), List.mem_of_getElem? (i := 782) (by decide +kernel), List.mem_of_getElem? (i := 783) (by decide +kernel)⟩
theorem lw_p14 : lw_okq (⟨"PageMakerModel", "goOn", "()I"⟩, 26) := ⟨⟨by decide +kernel, by decide +kernel⟩, List.mem_of_getElem? (i := 673) (by decide +kernel), List.mem_of_getElem? (i := 786) (by decide +kernel), List.mem_of_getElem? (i := 787) (by decide +kernel)⟩
theorem lw_p15 : lw_okq (⟨"PageMakerModel", "openPage", "()V"⟩, 26) := ⟨⟨by decide +kernel, by decide +kernel⟩, List.mem_of_getElem? (i := 673) (by decide +kernel), List.mem_of_getElem? (i := 790) (by decide +kernel), List.mem_of_getElem? (i := 791) (by decide +kernel)⟩
def lw_privs_1 : List (MethodName × Nat) := [(⟨"java/lang/Throwable", "fillInStackTrace", "(I)Ljava/lang/Throwable;"⟩, 6), (⟨"PageMaker", "needRoom", "()V"⟩, 4), (⟨"PageMaker", "comeIn", "(LPageMaker$Item;)I"⟩, 4), (⟨"java/util/ArrayList", "add", "(Ljava/lang/Object;[Ljava/lang/Object;I)V"⟩, 3), (⟨"java/util/ArrayList", "grow", "()[Ljava/lang/Object;"⟩, 3), (⟨"java/util/ArrayList", "grow", "(I)[Ljava/lang/Object;"⟩, 3), (⟨"PageMaker", "lookFrom", "(I)V"⟩, 4), (⟨"PageMaker", "isItem", "(I)Z"⟩, 4), (⟨"PageMaker", "breakEndsPage", "(ILPageMaker$Item;)Z"⟩, 4), (⟨"PageMaker", "endOpenPage", "()I"⟩, 4), (⟨"PageMaker", "totalsOf", "(LPageMaker$Frame;II)LPageMaker$Totals;"⟩, 4), (⟨"PageMaker", "takeIn", "(ILPageMaker$Item;)V"⟩, 4), (⟨"PageMaker", "endedPage", "(I)LPageMaker$EndedPage;"⟩, 4), (⟨"PageMakerModel", "append", "(IIIII)I"⟩, 26), (⟨"PageMakerModel", "goOn", "()I"⟩, 26), (⟨"PageMakerModel", "openPage", "()V"⟩, 26)]
theorem lw_r1 : ∀ q ∈ lw_privs_1, lw_okq q := List.forall_mem_cons.mpr ⟨lw_p0, List.forall_mem_cons.mpr ⟨lw_p1, List.forall_mem_cons.mpr ⟨lw_p2, List.forall_mem_cons.mpr ⟨lw_p3, List.forall_mem_cons.mpr ⟨lw_p4, List.forall_mem_cons.mpr ⟨lw_p5, List.forall_mem_cons.mpr ⟨lw_p6, List.forall_mem_cons.mpr ⟨lw_p7, List.forall_mem_cons.mpr ⟨lw_p8, List.forall_mem_cons.mpr ⟨lw_p9, List.forall_mem_cons.mpr ⟨lw_p10, List.forall_mem_cons.mpr ⟨lw_p11, List.forall_mem_cons.mpr ⟨lw_p12, List.forall_mem_cons.mpr ⟨lw_p13, List.forall_mem_cons.mpr ⟨lw_p14, List.forall_mem_cons.mpr ⟨lw_p15, fun _ h => absurd h List.not_mem_nil⟩⟩⟩⟩⟩⟩⟩⟩⟩⟩⟩⟩⟩⟩⟩⟩
theorem lw_p16 : lw_okq (⟨"PageMakerModel", "breaks", "()Z"⟩, 26) := ⟨⟨by decide +kernel, by decide +kernel⟩, List.mem_of_getElem? (i := 673) (by decide +kernel), List.mem_of_getElem? (i := 794) (by decide +kernel), List.mem_of_getElem? (i := 795) (by decide +kernel)⟩
theorem lw_p17 : lw_okq (⟨"PageMakerModel", "clear", "(I)V"⟩, 26) := ⟨⟨by decide +kernel, by decide +kernel⟩, List.mem_of_getElem? (i := 673) (by decide +kernel), List.mem_of_getElem? (i := 798) (by decide +kernel), List.mem_of_getElem? (i := 799) (by decide +kernel)⟩
theorem lw_p18 : lw_okq (⟨"PageMakerModel", "add", "(II)V"⟩, 26) := ⟨⟨by decide +kernel, by decide +kernel⟩, List.mem_of_getElem? (i := 673) (by decide +kernel), List.mem_of_getElem? (i := 802) (by decide +kernel), List.mem_of_getElem? (i := 803) (by decide +kernel)⟩
theorem lw_p19 : lw_okq (⟨"PageMakerModel", "penaltyAt", "(I)I"⟩, 26) := ⟨⟨by decide +kernel, by decide +kernel⟩, List.mem_of_getElem? (i := 673) (by decide +kernel), List.mem_of_getElem? (i := 806) (by decide +kernel), List.mem_of_getElem? (i := 807) (by decide +kernel)⟩
theorem lw_p20 : lw_okq (⟨"PageMakerModel", "cost", "(II)I"⟩, 26) := ⟨⟨by decide +kernel, by decide +kernel⟩, List.mem_of_getElem? (i := 673) (by decide +kernel), List.mem_of_getElem? (i := 810) (by decide +kernel), List.mem_of_getElem? (i := 811) (by decide +kernel)⟩
theorem lw_p21 : lw_okq (⟨"PageMakerModel", "badness", "(I)I"⟩, 26) := ⟨⟨by decide +kernel, by decide +kernel⟩, List.mem_of_getElem? (i := 673) (by decide +kernel), List.mem_of_getElem? (i := 814) (by decide +kernel), List.mem_of_getElem? (i := 815) (by decide +kernel)⟩
theorem lw_p22 : lw_okq (⟨"PageMakerModel", "isEndless", "()Z"⟩, 26) := ⟨⟨by decide +kernel, by decide +kernel⟩, List.mem_of_getElem? (i := 673) (by decide +kernel), List.mem_of_getElem? (i := 818) (by decide +kernel), List.mem_of_getElem? (i := 819) (by decide +kernel)⟩
theorem lw_p23 : lw_okq (⟨"PageMakerModel", "addUpTo", "(II)V"⟩, 26) := ⟨⟨by decide +kernel, by decide +kernel⟩, List.mem_of_getElem? (i := 673) (by decide +kernel), List.mem_of_getElem? (i := 857) (by decide +kernel), List.mem_of_getElem? (i := 858) (by decide +kernel)⟩
theorem lw_p24 : lw_okq (⟨"PageMakerModel", "orderOf", "(J)I"⟩, 26) := ⟨⟨by decide +kernel, by decide +kernel⟩, List.mem_of_getElem? (i := 673) (by decide +kernel), List.mem_of_getElem? (i := 861) (by decide +kernel), List.mem_of_getElem? (i := 862) (by decide +kernel)⟩
def lw_privs_2 : List (MethodName × Nat) := [(⟨"PageMakerModel", "breaks", "()Z"⟩, 26), (⟨"PageMakerModel", "clear", "(I)V"⟩, 26), (⟨"PageMakerModel", "add", "(II)V"⟩, 26), (⟨"PageMakerModel", "penaltyAt", "(I)I"⟩, 26), (⟨"PageMakerModel", "cost", "(II)I"⟩, 26), (⟨"PageMakerModel", "badness", "(I)I"⟩, 26), (⟨"PageMakerModel", "isEndless", "()Z"⟩, 26), (⟨"PageMakerModel", "addUpTo", "(II)V"⟩, 26), (⟨"PageMakerModel", "orderOf", "(J)I"⟩, 26)]
theorem lw_r2 : ∀ q ∈ lw_privs_2, lw_okq q := List.forall_mem_cons.mpr ⟨lw_p16, List.forall_mem_cons.mpr ⟨lw_p17, List.forall_mem_cons.mpr ⟨lw_p18, List.forall_mem_cons.mpr ⟨lw_p19, List.forall_mem_cons.mpr ⟨lw_p20, List.forall_mem_cons.mpr ⟨lw_p21, List.forall_mem_cons.mpr ⟨lw_p22, List.forall_mem_cons.mpr ⟨lw_p23, List.forall_mem_cons.mpr ⟨lw_p24, fun _ h => absurd h List.not_mem_nil⟩⟩⟩⟩⟩⟩⟩⟩⟩
def lw_privs : List (MethodName × Nat) := lw_privs_1 ++ (lw_privs_2)
def lw_tbl : List Cond := k2_sels lw_privs ++ tables_1
theorem lw_privs_ok : ∀ q ∈ lw_privs, lw_okq q := by
  show ∀ q ∈ lw_privs_1 ++ (lw_privs_2), lw_okq q
  exact List.forall_mem_append.mpr ⟨lw_r1, lw_r2⟩
end
section
/-! ===== BEGIN words of one list among another's, by their places ===== -/
theorem goodIn_r {big : List Cond} (ws : List Cond) (ps : List Nat) (hp : ws = ps.filterMap (fun i => big[i]?)) (h : ws.all goodWord = true) : GoodIn big ws := by
  intro w hw
  have h1 := List.all_eq_true.mp h w hw
  rw [hp] at hw
  obtain ⟨i, -, hi⟩ := List.mem_filterMap.mp hw
  have hm : w ∈ big := by first | exact List.mem_of_getElem? hi | exact List.getElem?_mem hi
  exact ⟨hm, good_of_word h1⟩
theorem goodIn_app {big a b : List Cond} (ha : GoodIn big a) (hb : GoodIn big b) : GoodIn big (a ++ b) := fun w h => (List.mem_append.mp h).elim (ha w) (hb w)
theorem goodIn_ca {big a b : List Cond} {c : Cond} (ha : GoodIn big (c :: a)) (hb : GoodIn big b) : GoodIn big (c :: (a ++ b)) := fun w h => (List.mem_cons.mp h).elim (fun e => ha w (List.mem_cons.mpr (Or.inl e))) (fun h => (List.mem_append.mp h).elim (fun h => ha w (List.mem_cons.mpr (Or.inr h))) (hb w))
theorem goodIn_sub {big ws : List Cond} (hm : ∀ w ∈ ws, w ∈ big) (h : ws.all goodWord = true) : GoodIn big ws := fun w hw => ⟨hm w hw, good_of_word (List.all_eq_true.mp h w hw)⟩
/-! ===== END ===== -/

/-! ===== BEGIN exceptions that leave a method, and their catching by the caller (launches without stack traces) ===== -/
section VXA
/-! The laws vx_back, vx_callV, vx_callS, vx_callSW, vx_throw0, vx_throwS follow proofs of the library, with one case more: JvmDerived/Free/Laws.lean (Back.of_free), Shelf42/LK1.lean (callV, callS), Shelf/KitTraced.lean (throwNew0V, throwNewS). -/
/-- where a method has thrown q: the class by its name, the cell, what was written, the world -/
def vx_T (XC : String → State → State → Prop) (st : State) (q : Addr) (t : State) (mc ms : Nat) (free : Addr → Prop) : Prop :=
  ∃ (E : String) (ce : Cell) (L : List Loc), XC E st t ∧ t.heap[q]? = some ce ∧ ce.vm = .none ∧ st.vm.findClass E = some ce.cls ∧ st.WarmedH t.vm ∧ st.sameButNew ({ t with vm := st.vm } : State) L mc ms ∧ ∀ z ∈ L, free z.base
def vx_Q (Qc : Array Value → State → Outcome → State → Prop) (XC : String → State → State → Prop) (mc ms : Nat) (free : Addr → Prop) : Array Value → State → Outcome → State → Prop := fun a st o t =>
  (Qc a st o t ∧ ∃ L, FrameEnd st o t L mc ms ∧ ∀ q ∈ L, free q.base) ∨ ∃ q, o = .threw q ∧ vx_T XC st q t mc ms free
/-- a callee that returns or throws -/
def vx_Met (l : Launch) (y : MethodName) (ws : List Cond) (rm : Room) (Pc : Array Value → State → Prop) (Qc : Array Value → State → Outcome → State → Prop) (XC : String → State → State → Prop) (mc ms : Nat) (free : Addr → Prop) : Prop :=
  MetFree l y (headSpec ws rm) Pc (fun _ _ _ _ _ => True) (vx_Q Qc XC mc ms free)
def vx_Post (XC : String → State → State → Prop) (mc ms : Nat) (free : Addr → Prop) : Pt → Array Value → Addr → Pt → Prop := fun A a q B =>
  ∃ (g : JFrame) (mk : MethodId) (t : State) (L : List Loc) (E : String) (ce : Cell), B.U.heap = t.heap ∧ B.U.vm = t.vm ∧ XC E (A.U.calling g mk a) t ∧ t.heap[q]? = some ce ∧ ce.vm = .none ∧ A.U.vm.findClass E = some ce.cls ∧ B.locs = A.locs ++ L ∧ (∀ z ∈ L, free z.base) ∧ B.cells = A.cells + mc ∧ B.slots = A.slots + ms
def vx_Back (l : Launch) (R : Room) (p : Program) (e : Env) (below : List Frame) (s : State) (sargs : Array Value) (y : MethodName) (len W9 : Nat)
    (Pre : Pt → Array Value → Prop) (Post : Pt → Array Value → Option Value → Pt → Prop) (PostX : Pt → Array Value → Addr → Pt → Prop) : Prop :=
  ∀ (m : MethodId) (meth : Method) (c : Code) (A : Pt) (g : JFrame) (ig : Instr) (mk : MethodId) (a : Array Value),
    Stand p l e R s m sargs below meth c A.U A.locs A.cells A.slots → g.method = m → g.locals.size = c.maxLocals → decode c.code g.pc = .ok (ig, len) →
    2 * g.monitorRoom + (g.stack.map fun v => v.category).sum ≤ W9 → A.U.methodNamed? y = some mk → Pre A a →
    (∃ (v : Option Value) (B : Pt), Stand p l e R s m sargs below meth c B.U B.locs B.cells B.slots ∧ Post A a v B ∧
      Steps p.tables e below (doInvoke e (A.U.setTop g) [] mk a).1 (B.U.setTop { g with pc := g.pc + len, stack := v.toList ++ g.stack })) ∨
    (∃ (q : Addr) (B : Pt), Stand p l e R s m sargs below meth c B.U B.locs B.cells B.slots ∧ PostX A a q B ∧
      Steps p.tables e below (doInvoke e (A.U.setTop g) [] mk a).1 ((B.U.setTop g).pushFrame (.throwing q)))
section Payer
variable {l : Launch} {R : Room} {p : Program} {e : Env} {below : List Frame} {s : State} {sargs : Array Value} {y : MethodName} {len W9 : Nat}
theorem vx_back {ws : List Cond} {rm : Room} {Pc : Array Value → State → Prop} {Qc : Array Value → State → Outcome → State → Prop} {XC : String → State → State → Prop} {mc ms : Nat} {free : Addr → Prop} {bytes : ByteArray} {maxL : Nat} {ret : Option FieldType}
    (hM : vx_Met l y ws rm Pc Qc XC mc ms free) (hblind : FrameBlind Pc) (hrc : rm.cells = mc) (hrs : rm.slots = ms)
    (hframes : rm.frames + 1 ≤ R.frames) (hlocals : W9 + (maxL + 11) + rm.locals ≤ R.locals)
    (hws : ∀ w ∈ ws, ∀ a' U, s.WarmedH U.vm → w.before a' U = true) (hcode : Cond.code y bytes maxL ret ∈ ws) (hinit : ∀ a' U, s.WarmedH U.vm → (Cond.initialized y.cls).before a' U = true) :
    vx_Back l R p e below s sargs y len W9 (PreOf R mc ms Pc) (PostOf Qc mc ms free) (vx_Post XC mc ms free) := by
  intro m meth c A g ig mk a X hg hsize hdg hW hn hp
  have h1 : (headSpec ws rm).pre.before a A.U = true := atoms_intro fun w hw => hws w hw _ _ X.warmed
  have h2 : (Cond.code y bytes maxL ret).before a A.U = true := hws _ hcode _ _ X.warmed
  have h3 : (Cond.initialized y.cls).before a A.U = true := hinit _ _ X.warmed
  have h4 : A.cells + (headSpec ws rm).room.cells ≤ R.cells := by rw [show (headSpec ws rm).room.cells = mc from hrc]; exact hp.1
  have h5 : A.slots + (headSpec ws rm).room.slots ≤ R.slots := by rw [show (headSpec ws rm).room.slots = ms from hrs]; exact hp.2.1
  have hPc : Pc a (A.U.calling g mk a) := hblind _ _ _ _ hp.2.2
  obtain ⟨U, Ls, c0, s0⟩ := A
  dsimp only [Pt.U, Pt.locs, Pt.cells, Pt.slots] at h1 h2 h3 h4 h5 X hn hPc ⊢
  obtain ⟨methY, cY, hmY, hcY, -, hlY, -, -, -, -⟩ := Cond.code_spec hn h2
  obtain ⟨kY, hkY, -⟩ := className_of_methodNamed hn
  have hinitY : kY.init = .initialized := Cond.initialized_spec (findClass_of_methodNamed hn) hkY h3
  have h : At U g.method c below := by rw [hg]; exact X.here
  have hlocals9 : W9 + (maxL + 11) + (headSpec ws rm).room.locals ≤ R.locals := hlocals
  have happ : (headSpec ws rm).appliesLoose y e.platform (U.calling g mk a) = true :=
    Spec.appliesLoose_calling (g := g) h hdg hn hkY hinitY
      (X.room_calling (g := g) (R' := (headSpec ws rm).room) hsize hmY hcY hframes (by rw [hlY]; omega) h4 h5) h1
  obtain ⟨mid, hmid⟩ := h.above
  have hfr : (U.setTop g).frames = (.java g :: mid) ++ below := by rw [State.frames_setTop' g h.top, hmid]; rfl
  obtain ⟨o, s₂, hsteps, -, hend, hq⟩ := Steps.callFree hM p X.admits X.cas X.clock (acts := []) hfr happ hPc trivial
  have hq' : vx_Q Qc XC mc ms free a (U.calling g mk a) o s₂ := hq
  rw [State.frames_setTop' g h.top] at hend
  obtain ⟨g₀, hg0⟩ := Option.isSome_iff_exists.mp h.top
  obtain ⟨r, hr⟩ := State.topJava?_eq_some.mp hg0
  have hr' : (({ U with heap := s₂.heap, slotsUsed := s₂.slotsUsed } : State).setVm s₂.vm).frames = .java g₀ :: r := hr
  rcases hq' with ⟨hqc, L, hfe, hL⟩ | ⟨q, rfl, E, ce, L, hx, hce, hcv, hcl, hW₂, hsm, hL⟩
  · obtain ⟨⟨v, rfl⟩, hW₂, e2, q2, q3, q4, q5, q6⟩ := id hfe
    have e3 : s₂ = ({ (U.calling g mk a).setFrames s₂.frames with heap := s₂.heap, slotsUsed := s₂.slotsUsed } : State).setVm s₂.vm := by
      have : s₂ = ({ s₂ with vm := (U.calling g mk a).vm } : State).setVm s₂.vm := rfl
      rw [e2] at this
      exact this
    obtain ⟨c₂, i₂, len₂, hc₂, hd₂, hf₂⟩ := hend
    have hW' : U.WarmedH s₂.vm := hW₂
    have hcc : c₂ = c := by
      have h1 : s₂.code? g.method = U.code? g.method := by
        rw [State.code?_eq, State.code?_eq, hW'.alike.method?]
      exact Option.some.inj (hc₂.symm.trans (h1.trans h.code))
    subst hcc
    have hlen : len₂ = len := by rw [hdg] at hd₂; cases hd₂; rfl
    subst hlen
    have hs₂ : s₂ = (({ U with heap := s₂.heap, slotsUsed := s₂.slotsUsed } : State).setVm s₂.vm).setTop { g with pc := g.pc + len₂, stack := v.toList ++ g.stack } := by
      refine e3.trans ?_
      rw [hf₂, State.calling_eq h.top, State.setFrames_setFrames, State.setTop_of_frames _ hr', hr]
      rfl
    have hsame : U.sameButNew ({ U with heap := s₂.heap, slotsUsed := s₂.slotsUsed } : State) L mc ms := by
      refine ⟨?_, q2, q3, q4, q5, q6⟩
      obtain ⟨t, ht, -⟩ := State.frames_cons hr
      show ({ U with heap := s₂.heap, slotsUsed := s₂.slotsUsed } : State) = { U.setFrames U.frames with heap := s₂.heap, slotsUsed := s₂.slotsUsed }
      rw [State.setFrames_self ht]
    subst hg
    refine Or.inl ⟨v, ⟨(({ U with heap := s₂.heap, slotsUsed := s₂.slotsUsed } : State).setVm s₂.vm), Ls ++ L, c0 + mc, s0 + ms⟩,
      ⟨X.admits, X.cas, X.clock, X.frames, X.room, X.hears, X.method, X.code, (X.here.setHeapUsed s₂.heap s₂.slotsUsed).setVm hW'.alike, X.tail, State.WarmedH.trans X.warmed hW', X.limits, X.bytes, X.same.trans (hsame.setVm s.vm)⟩,
      ⟨g, mk, s₂, L, rfl, rfl, hqc, rfl, hL, rfl, rfl⟩, ?_⟩
    show Steps p.tables e below _ ((({ U with heap := s₂.heap, slotsUsed := s₂.slotsUsed } : State).setVm s₂.vm).setTop { g with pc := g.pc + len₂, stack := v.toList ++ g.stack })
    rw [← hs₂]
    exact hsteps
  · obtain ⟨e2, q2, q3, q4, q5, q6⟩ := id hsm
    have e3 : s₂ = ({ (U.calling g mk a).setFrames s₂.frames with heap := s₂.heap, slotsUsed := s₂.slotsUsed } : State).setVm s₂.vm := by
      have : s₂ = ({ s₂ with vm := (U.calling g mk a).vm } : State).setVm s₂.vm := rfl
      rw [e2] at this
      exact this
    have hf₂ : s₂.frames = .throwing q :: .java g :: U.frames.tail := hend
    have hW' : U.WarmedH s₂.vm := hW₂
    have hs₂ : s₂ = ((({ U with heap := s₂.heap, slotsUsed := s₂.slotsUsed } : State).setVm s₂.vm).setTop g).pushFrame (.throwing q) := by
      refine e3.trans ?_
      rw [hf₂, State.calling_eq h.top, State.setFrames_setFrames, State.pushFrame, State.frames_setTop _ hr', State.setTop_of_frames _ hr', State.setFrames_setFrames, hr]
      rfl
    have hsame : U.sameButNew ({ U with heap := s₂.heap, slotsUsed := s₂.slotsUsed } : State) L mc ms := by
      refine ⟨?_, q2, q3, q4, q5, q6⟩
      obtain ⟨t, ht, -⟩ := State.frames_cons hr
      show ({ U with heap := s₂.heap, slotsUsed := s₂.slotsUsed } : State) = { U.setFrames U.frames with heap := s₂.heap, slotsUsed := s₂.slotsUsed }
      rw [State.setFrames_self ht]
    subst hg
    refine Or.inr ⟨q, ⟨(({ U with heap := s₂.heap, slotsUsed := s₂.slotsUsed } : State).setVm s₂.vm), Ls ++ L, c0 + mc, s0 + ms⟩,
      ⟨X.admits, X.cas, X.clock, X.frames, X.room, X.hears, X.method, X.code, (X.here.setHeapUsed s₂.heap s₂.slotsUsed).setVm hW'.alike, X.tail, State.WarmedH.trans X.warmed hW', X.limits, X.bytes, X.same.trans (hsame.setVm s.vm)⟩,
      ⟨g, mk, s₂, L, E, ce, rfl, rfl, hx, hce, hcv, hcl, rfl, hL, rfl, rfl⟩, ?_⟩
    show Steps p.tables e below _ (((({ U with heap := s₂.heap, slotsUsed := s₂.slotsUsed } : State).setVm s₂.vm).setTop g).pushFrame (.throwing q))
    rw [← hs₂]
    exact hsteps
end Payer
section Calls
variable {p : Program} {l : Launch} {e : Env} {R : Room} {s : State} {m : MethodId} {args : Array Value} {below : List Frame} {meth : Method} {c : Code} {T : State} {locs : List Loc} {cells slots : Nat}
theorem vx_callV (X : Stand p l e R s m args below meth c T locs cells slots) (hexec : p.tables.exec = Jvm.exec) {own C : String} {index : Nat} {y : MethodName} {bytes : ByteArray} {maxL : Nat} {ret : Option FieldType}
    (hown : s.vm.findClass own = some m.cls) (hlink : (Cond.methodLink own index y).before args s = true) (hinst : (Cond.instanceMethod y).before args s = true) (hsel : (Cond.selects C y y).before args s = true)
    (hcode : (Cond.code y bytes maxL ret).before args s = true) (hy : y.cls ≠ "java/lang/invoke/MethodHandle" ∧ y.cls ≠ "java/lang/invoke/VarHandle")
    {W9 : Nat} {Pre : Pt → Array Value → Prop} {Post : Pt → Array Value → Option Value → Pt → Prop} {PostX : Pt → Array Value → Addr → Pt → Prop} (hK : vx_Back l R p e below s args y 3 W9 Pre Post PostX)
    {b : Addr} {cellB : Cell} (hcell : T.heap[b]? = some cellB) (hobj : cellB.vm.isStatics = false) (hcls : s.vm.findClass C = some cellB.cls)
    {g : JFrame} (hg : g.method = m) (hsize : g.locals.size = c.maxLocals) {argsL rest : List Value} (hlen : ∀ sig, parseMethodDescriptor y.desc = some sig → argsL.length = sig.parameters.length)
    (hstack : g.stack = argsL.reverse ++ .ref b :: rest) (hW : 2 * g.monitorRoom + (rest.map fun v => v.category).sum ≤ W9) (hdg : decode c.code g.pc = .ok (.invokevirtual index, 3))
    (hpre : ∀ vm₁, s.WarmedH vm₁ → Pre ⟨T.setVm vm₁, locs, cells, slots⟩ (Value.ref b :: argsL).toArray) :
    (∃ (v : Option Value) (vm₁ : Vm) (B : Pt), s.WarmedH vm₁ ∧ Stand p l e R s m args below meth c B.U B.locs B.cells B.slots ∧ Post ⟨T.setVm vm₁, locs, cells, slots⟩ (Value.ref b :: argsL).toArray v B ∧
      ∀ target, Steps p.tables e below (B.U.setTop { g with pc := g.pc + 3, stack := v.toList ++ rest }) target → Steps p.tables e below (T.setTop g) target) ∨
    (∃ (q : Addr) (vm₁ : Vm) (B : Pt), s.WarmedH vm₁ ∧ Stand p l e R s m args below meth c B.U B.locs B.cells B.slots ∧ PostX ⟨T.setVm vm₁, locs, cells, slots⟩ (Value.ref b :: argsL).toArray q B ∧
      Steps p.tables e below (T.setTop g) ((B.U.setTop { g with stack := rest }).pushFrame (.throwing q))) := by
  obtain ⟨mk, methM, hnamed, hmethM, hstM, habM⟩ := Cond.instanceMethod_spec hinst
  obtain ⟨methM', cM, hmethM', -, -, -, -, -, -, hsigM⟩ := Cond.code_spec hnamed hcode
  cases hmethM.symm.trans hmethM'
  obtain ⟨c2, r2, m2, q1, q2, q3, q4, kP, hkP, hkPi⟩ := Cond.selects_spec hsel
  cases hcls.symm.trans q1
  cases (State.methodFound?_of_named hnamed hy).symm.trans q2
  cases hnamed.symm.trans q3
  have hselP : selectMethod e.platform s.vm cellB.cls mk = .method mk := by rw [Launch.admits_selectMethod X.admits]; exact q4
  obtain ⟨vm₁, X₁, hstep₁⟩ := X.invokevirtual hexec hown hlink hnamed hmethM hstM hkP hkPi hy (a := b) (cell := cellB) hcell
    (fun z h => by rw [h] at hobj; cases hobj) hselP hmethM habM hkP hkPi (g := g) hg (argsL := argsL) (rest := rest) (hlen _ hsigM) hstack hdg
  rcases hK m meth c ⟨T.setVm vm₁, locs, cells, slots⟩ { g with stack := rest } (.invokevirtual index) mk (Value.ref b :: argsL).toArray X₁ hg hsize hdg hW (X₁.named hnamed) (hpre vm₁ X₁.warmed) with ⟨v, B, X', hpost, hsteps⟩ | ⟨q, B, X', hpost, hsteps⟩
  · exact Or.inl ⟨v, vm₁, B, X₁.warmed, X', hpost, fun target h => hstep₁ _ fun acts => by rw [doInvoke_state]; exact hsteps.trans h⟩
  · exact Or.inr ⟨q, vm₁, B, X₁.warmed, X', hpost, hstep₁ _ fun acts => by rw [doInvoke_state]; exact hsteps⟩
theorem vx_callS (X : Stand p l e R s m args below meth c T locs cells slots) (hexec : p.tables.exec = Jvm.exec) {own : String} {index : Nat} {y : MethodName} {bytes : ByteArray} {maxL : Nat} {ret : Option FieldType}
    (hown : s.vm.findClass own = some m.cls) (hlink : (Cond.methodLink own index y).before args s = true) (hstat : (Cond.static y).before args s = true) (hinit : (Cond.initialized y.cls).before args s = true)
    (hcode : (Cond.code y bytes maxL ret).before args s = true) (hy : y.cls ≠ "java/lang/invoke/MethodHandle" ∧ y.cls ≠ "java/lang/invoke/VarHandle")
    {W9 : Nat} {Pre : Pt → Array Value → Prop} {Post : Pt → Array Value → Option Value → Pt → Prop} {PostX : Pt → Array Value → Addr → Pt → Prop} (hK : vx_Back l R p e below s args y 3 W9 Pre Post PostX)
    {g : JFrame} (hg : g.method = m) (hsize : g.locals.size = c.maxLocals) {argsL rest : List Value} (hlen : ∀ sig, parseMethodDescriptor y.desc = some sig → argsL.length = sig.parameters.length)
    (hstack : g.stack = argsL.reverse ++ rest) (hW : 2 * g.monitorRoom + (rest.map fun v => v.category).sum ≤ W9) (hdg : decode c.code g.pc = .ok (.invokestatic index, 3))
    (hpre : ∀ vm₁, s.WarmedH vm₁ → Pre ⟨T.setVm vm₁, locs, cells, slots⟩ argsL.toArray) :
    (∃ (v : Option Value) (vm₁ : Vm) (B : Pt), s.WarmedH vm₁ ∧ Stand p l e R s m args below meth c B.U B.locs B.cells B.slots ∧ Post ⟨T.setVm vm₁, locs, cells, slots⟩ argsL.toArray v B ∧
      ∀ target, Steps p.tables e below (B.U.setTop { g with pc := g.pc + 3, stack := v.toList ++ rest }) target → Steps p.tables e below (T.setTop g) target) ∨
    (∃ (q : Addr) (vm₁ : Vm) (B : Pt), s.WarmedH vm₁ ∧ Stand p l e R s m args below meth c B.U B.locs B.cells B.slots ∧ PostX ⟨T.setVm vm₁, locs, cells, slots⟩ argsL.toArray q B ∧
      Steps p.tables e below (T.setTop g) ((B.U.setTop { g with stack := rest }).pushFrame (.throwing q))) := by
  obtain ⟨mk, hnamed⟩ := Cond.code_named hcode
  obtain ⟨methM, cM, hmethM, -, -, -, -, -, -, hsigM⟩ := Cond.code_spec hnamed hcode
  have hstatic : methM.isStatic = true := Cond.static_spec hnamed hmethM hstat
  obtain ⟨kP, hkP, -⟩ := className_of_methodNamed hnamed
  have hinitP : kP.init = .initialized := Cond.initialized_spec (findClass_of_methodNamed hnamed) hkP hinit
  obtain ⟨vm₁, X₁, hstep₁⟩ := X.invokestatic hexec hown hlink hnamed hmethM hstatic hkP hinitP hy (g := g) hg (argsL := argsL) (rest := rest) (hlen _ hsigM) hstack hdg
  rcases hK m meth c ⟨T.setVm vm₁, locs, cells, slots⟩ { g with stack := rest } (.invokestatic index) mk argsL.toArray X₁ hg hsize hdg hW (X₁.named hnamed) (hpre vm₁ X₁.warmed) with ⟨v, B, X', hpost, hsteps⟩ | ⟨q, B, X', hpost, hsteps⟩
  · exact Or.inl ⟨v, vm₁, B, X₁.warmed, X', hpost, fun target h => hstep₁ _ fun acts => by rw [doInvoke_state]; exact hsteps.trans h⟩
  · exact Or.inr ⟨q, vm₁, B, X₁.warmed, X', hpost, hstep₁ _ fun acts => by rw [doInvoke_state]; exact hsteps⟩
end Calls
theorem vx_cls {s : State} {T : State} {vm₁ : Vm} {E : String} {k : ClassId} (hW : s.WarmedH vm₁) (h : (T.setVm vm₁).vm.findClass E = some k) : s.vm.findClass E = some k := by
  have h1 : vm₁.findClass E = some k := h
  rw [hW.alike.findClass] at h1
  exact h1
/-- the method's frame g, with q thrown over it -/
def vx_W (p : Program) (l : Launch) (e : Env) (R : Room) (s : State) (m : MethodId) (args : Array Value) (below : List Frame) (meth : Method) (c : Code) (H : Heap) (locs : List Loc) (cells slots : Nat) (Q : State → Prop) (g : JFrame) (q : Addr) : Prop :=
  ∀ T : State, T.heap = H → Stand p l e R s m args below meth c T locs cells slots → ∃ t, Steps p.tables e below ((T.setTop g).pushFrame (.throwing q)) t ∧ Q t
def vx_Run (p : Program) (l : Launch) (e : Env) (R : Room) (s : State) (m : MethodId) (args : Array Value) (below : List Frame) (meth : Method) (c : Code) (H : Heap) (locs : List Loc) (cells slots mc ms : Nat) (g : JFrame) (rest : List Value) (Qa : State → Outcome → State → Prop) (XC : String → State → State → Prop) (free : Addr → Prop) : Prop :=
  ∀ T : State, T.heap = H → Stand p l e R s m args below meth c T locs cells slots →
    (∃ (v : Option Value) (st₀ t T' : State) (L : List Loc), st₀.heap = H ∧ Stand p l e R s m args below meth c T' (locs ++ L) (cells + mc) (slots + ms) ∧ (∀ q ∈ L, free q.base) ∧ T'.heap = t.heap ∧ T'.vm = t.vm ∧ Qa st₀ (.returned v) t ∧
      Goes p e below T g T' { g with pc := g.pc + 3, stack := v.toList ++ rest }) ∨
    (∃ (q : Addr) (st₀ t T' : State) (L : List Loc) (E : String) (ce : Cell), st₀.heap = H ∧ Stand p l e R s m args below meth c T' (locs ++ L) (cells + mc) (slots + ms) ∧ (∀ z ∈ L, free z.base) ∧ T'.heap = t.heap ∧ T'.vm = t.vm ∧ XC E st₀ t ∧ t.heap[q]? = some ce ∧ ce.vm = .none ∧ s.vm.findClass E = some ce.cls ∧
      Steps p.tables e below (T.setTop g) ((T'.setTop { g with stack := rest }).pushFrame (.throwing q)))
def vx_X {S : Type} (px : S → Prop) (B : String → S → State → Prop) (A : Nat → Prop) : String → State → State → Prop := fun E st t => ∃ u : S, px u ∧ B E u t ∧ va_F A st t
section Runs
variable {p : Program} {l : Launch} {e : Env} {R : Room} {s : State} {m : MethodId} {args : Array Value} {below : List Frame} {meth : Method} {c : Code} {H : Heap} {locs : List Loc} {cells slots : Nat}
variable {y : MethodName} {bytes cc : ByteArray} {maxL nL mc ms n index : Nat} {ret : Option FieldType} {ws : List Cond} {rm : Room} {Pc : Array Value → State → Prop} {Qc : Array Value → State → Outcome → State → Prop} {XC : String → State → State → Prop} {free : Addr → Prop} {Ts : List Cond} {own C : String} {b : Addr} {As rest : List Value} {g : JFrame}
theorem vx_callBack (cb : CallB R s args own index y bytes maxL ret ws rm mc ms n) (hM : vx_Met l y ws rm Pc Qc XC mc ms free) (hbl : FrameBlind Pc) : vx_Back l R p e below s args y 3 8 (PreOf R mc ms Pc) (PostOf Qc mc ms free) (vx_Post XC mc ms free) := by
  obtain ⟨hrc, hrs, hfr, hlo, hws, hcw, -, hini, -⟩ := cb
  exact vx_back (bytes := bytes) (maxL := maxL) (ret := ret) hM hbl hrc hrs hfr hlo hws hcw (fun a' U hW => word_at hW (Or.inl (by first | rfl | simp [Cond.onTables, Cond.keeps, Cond.steady])) hini)
theorem vx_runV (S : CallFix p m c cc nL s args Ts own) (hM : vx_Met l y ws rm Pc Qc XC mc ms free) (cw : CallW R s args own C index y bytes maxL ret ws rm mc ms n) (hp : PreV s H C b Pc As)
    (hg : g.method = m) (hn : As.length = n) (hsize : g.locals.size = nL) (hstack : g.stack = As.reverse ++ .ref b :: rest) (hW : 2 * g.monitorRoom + (rest.map fun v => v.category).sum ≤ 8) (hdg : decode cc g.pc = .ok (.invokevirtual index, 3)) (hf : cells + mc ≤ R.cells ∧ slots + ms ≤ R.slots) :
    vx_Run p l e R s m args below meth c H locs cells slots mc ms g rest (Qc (Value.ref b :: As).toArray) XC free := by
  have hK : vx_Back l R p e below s args y 3 8 (PreOf R mc ms Pc) (PostOf Qc mc ms free) (vx_Post XC mc ms free) := vx_callBack cw.1 hM hp.1
  obtain ⟨⟨-, -, -, -, -, -, hcode, -, hy, hlen, hl⟩, hin, hse⟩ := cw
  obtain ⟨hx, hb, hml, ho, -⟩ := S
  obtain ⟨-, ⟨cellB, hcB, hoB, hclB⟩, hPc⟩ := hp
  intro T hT X
  rcases vx_callV X hx (C := C) (bytes := bytes) (maxL := maxL) (ret := ret) ho hl hin hse hcode hy hK (by rw [hT]; exact hcB) hoB hclB hg (hsize.trans hml.symm) (argsL := As) (rest := rest) (fun sig h => hn.trans (hlen sig h)) hstack hW (by rw [hb]; exact hdg)
    (fun vm₁ hW₁ => ⟨hf.1, hf.2, hPc (T.setVm vm₁) hT hW₁⟩) with ⟨v, vm₁, ⟨U', l2, c2, s2⟩, hW₁, X', ⟨g', mk, t, L, e1, e2, hq, h1, hL, h2, h3⟩, st⟩ | ⟨q, vm₁, ⟨U', l2, c2, s2⟩, hW₁, X', ⟨g', mk, t, L, E, ce, e1, e2, hq, hce, hcv, hcl, h1, hL, h2, h3⟩, st⟩
  · dsimp only [Pt.U, Pt.locs, Pt.cells, Pt.slots] at X' e1 e2 h1 h2 h3 st
    subst h1; subst h2; subst h3
    exact Or.inl ⟨v, (T.setVm vm₁).calling g' mk (Value.ref b :: As).toArray, t, U', L, hT, X', hL, e1, e2, hq, st⟩
  · dsimp only [Pt.U, Pt.locs, Pt.cells, Pt.slots] at X' e1 e2 h1 h2 h3 st hcl
    subst h1; subst h2; subst h3
    exact Or.inr ⟨q, (T.setVm vm₁).calling g' mk (Value.ref b :: As).toArray, t, U', L, E, ce, hT, X', hL, e1, e2, hq, hce, hcv, vx_cls hW₁ hcl, st⟩
theorem vx_runS (S : CallFix p m c cc nL s args Ts own) (hM : vx_Met l y ws rm Pc Qc XC mc ms free) (cw : CallB R s args own index y bytes maxL ret ws rm mc ms n ∧ (Cond.static y).before args s = true) (hp : PreS s H Pc As)
    (hg : g.method = m) (hn : As.length = n) (hsize : g.locals.size = nL) (hstack : g.stack = As.reverse ++ rest) (hW : 2 * g.monitorRoom + (rest.map fun v => v.category).sum ≤ 8) (hdg : decode cc g.pc = .ok (.invokestatic index, 3)) (hf : cells + mc ≤ R.cells ∧ slots + ms ≤ R.slots) :
    vx_Run p l e R s m args below meth c H locs cells slots mc ms g rest (Qc As.toArray) XC free := by
  have hK : vx_Back l R p e below s args y 3 8 (PreOf R mc ms Pc) (PostOf Qc mc ms free) (vx_Post XC mc ms free) := vx_callBack cw.1 hM hp.1
  obtain ⟨⟨-, -, -, -, -, -, hcode, hini, hy, hlen, hl⟩, hstt⟩ := cw
  obtain ⟨hx, hb, hml, ho, -⟩ := S
  intro T hT X
  rcases vx_callS X hx (bytes := bytes) (maxL := maxL) (ret := ret) ho hl hstt hini hcode hy hK hg (hsize.trans hml.symm) (argsL := As) (rest := rest) (fun sig h => hn.trans (hlen sig h)) hstack hW (by rw [hb]; exact hdg)
    (fun vm₁ hW₁ => ⟨hf.1, hf.2, hp.2 (T.setVm vm₁) hT hW₁⟩) with ⟨v, vm₁, ⟨U', l2, c2, s2⟩, hW₁, X', ⟨g', mk, t, L, e1, e2, hq, h1, hL, h2, h3⟩, st⟩ | ⟨q, vm₁, ⟨U', l2, c2, s2⟩, hW₁, X', ⟨g', mk, t, L, E, ce, e1, e2, hq, hce, hcv, hcl, h1, hL, h2, h3⟩, st⟩
  · dsimp only [Pt.U, Pt.locs, Pt.cells, Pt.slots] at X' e1 e2 h1 h2 h3 st
    subst h1; subst h2; subst h3
    exact Or.inl ⟨v, (T.setVm vm₁).calling g' mk As.toArray, t, U', L, hT, X', hL, e1, e2, hq, st⟩
  · dsimp only [Pt.U, Pt.locs, Pt.cells, Pt.slots] at X' e1 e2 h1 h2 h3 st hcl
    subst h1; subst h2; subst h3
    exact Or.inr ⟨q, (T.setVm vm₁).calling g' mk As.toArray, t, U', L, E, ce, hT, X', hL, e1, e2, hq, hce, hcv, vx_cls hW₁ hcl, st⟩
end Runs
section Rows
variable {p : Program} {l : Launch} {e : Env} {R : Room} {s : State} {m : MethodId} {args : Array Value} {below : List Frame} {meth : Method} {c : Code} {H : Heap} {locs : List Loc} {cells slots : Nat} {Q : State → Prop}
variable {mc ms : Nat} {free : Addr → Prop} {A0 A1 : Nat → Prop} {H0 : Heap} {a : Array Value} {pc : Nat} {ls : Array Slot} {st0 rest : List Value}
theorem vx_keep {st₀ t T' : State} {L : List Loc} (h0 : st₀.heap = H) (e1 : T'.heap = t.heap) (hS : va_S A0 H0 H locs) (hA : ∀ q, q < H.size → A1 q → A0 q) (hf : ∀ q, free q → A0 q) (hL : ∀ q ∈ L, free q.base) (hF : va_F A1 st₀ t) :
    H.size ≤ T'.heap.size ∧ (∀ q : Nat, q < H.size → ¬ A1 q → T'.heap[q]? = H[q]?) ∧ va_S A0 H0 T'.heap (locs ++ L) := by
  obtain ⟨hz, hk⟩ := hF
  rw [h0] at hz hk
  exact ⟨by rw [e1]; exact hz, fun q h1 h2 => by rw [e1]; exact hk q h1 h2,
    ⟨Nat.le_trans hS.1 (by rw [e1]; exact hz), fun q h1 h2 => by rw [e1, hk q (Nat.lt_of_lt_of_le h1 hS.1) (fun z => h2 (hA q (Nat.lt_of_lt_of_le h1 hS.1) z))]; exact hS.2.1 q h1 h2, fun q hq => by
      rcases List.mem_append.mp hq with h | h
      · exact hS.2.2 q h
      · exact hf _ (hL q h)⟩⟩
theorem vx_calli {S SX : Type} {post : Int32 → S → Prop} {px : SX → Prop} {B : S → State → Prop} {BX : String → SX → State → Prop} {AX : Nat → Prop} (hr : vx_Run p l e R s m args below meth c H locs cells slots mc ms (F0 m pc ls st0) rest (va_Qi post B A1 a) (vx_X px BX AX) free) (hS : va_S A0 H0 H locs) (hA : ∀ q, q < H.size → A1 q → A0 q) (hf : ∀ q, free q → A0 q) (hAX : ∀ q, q < H.size → AX q → A0 q)
    (kx : ∀ (E : String) (ce : Cell) (q9 : Addr) (u : SX) (t : State) (H1 : Heap) (locs1 : List Loc), t.heap = H1 → s.vm.Alike t.vm → px u → BX E u t → H.size ≤ H1.size → (∀ q : Nat, q < H.size → ¬ AX q → H1[q]? = H[q]?) → va_S A0 H0 H1 locs1 → H1[q9]? = some ce → ce.vm = .none → s.vm.findClass E = some ce.cls → vx_W p l e R s m args below meth c H1 locs1 (cells + mc) (slots + ms) Q (F0 m pc ls rest) q9)
    (kk : ∀ (r : Int32) (u : S) (t : State) (H1 : Heap) (locs1 : List Loc), t.heap = H1 → s.vm.Alike t.vm → post r u → B u t → H.size ≤ H1.size → (∀ q : Nat, q < H.size → ¬ A1 q → H1[q]? = H[q]?) → va_S A0 H0 H1 locs1 → W p l e R s m args below meth c H1 locs1 (cells + mc) (slots + ms) Q (F0 m (pc + 3) ls (.int r :: rest))) : W p l e R s m args below meth c H locs cells slots Q (F0 m pc ls st0) := by
  intro T hT X
  rcases hr T hT X with ⟨v, st₀, t, T', L, h0, X', hL, e1, e2, ⟨⟨r, u, hv, hp, hb⟩, hF⟩, st⟩ | ⟨q, st₀, t, T', L, E, ce, h0, X', hL, e1, e2, ⟨u, hp, hb, hF⟩, hce, hcv, hcl, st⟩
  · cases hv
    obtain ⟨k1, k2, k3⟩ := vx_keep h0 e1 hS hA hf hL hF
    obtain ⟨t2, a1, b1⟩ := kk r u t T'.heap (locs ++ L) e1.symm (by rw [← e2]; exact X'.warmed.alike) hp hb k1 k2 k3 T' rfl X'
    exact ⟨t2, st t2 a1, b1⟩
  · obtain ⟨k1, k2, k3⟩ := vx_keep h0 e1 hS hAX hf hL hF
    obtain ⟨t2, a1, b1⟩ := kx E ce q u t T'.heap (locs ++ L) e1.symm (by rw [← e2]; exact X'.warmed.alike) hp hb k1 k2 k3 (by rw [e1]; exact hce) hcv hcl T' rfl X'
    exact ⟨t2, st.trans a1, b1⟩
theorem vx_calll {S SX : Type} {post : Int64 → S → Prop} {px : SX → Prop} {B : S → State → Prop} {BX : String → SX → State → Prop} {AX : Nat → Prop} (hr : vx_Run p l e R s m args below meth c H locs cells slots mc ms (F0 m pc ls st0) rest (va_Ql post B A1 a) (vx_X px BX AX) free) (hS : va_S A0 H0 H locs) (hA : ∀ q, q < H.size → A1 q → A0 q) (hf : ∀ q, free q → A0 q) (hAX : ∀ q, q < H.size → AX q → A0 q)
    (kx : ∀ (E : String) (ce : Cell) (q9 : Addr) (u : SX) (t : State) (H1 : Heap) (locs1 : List Loc), t.heap = H1 → s.vm.Alike t.vm → px u → BX E u t → H.size ≤ H1.size → (∀ q : Nat, q < H.size → ¬ AX q → H1[q]? = H[q]?) → va_S A0 H0 H1 locs1 → H1[q9]? = some ce → ce.vm = .none → s.vm.findClass E = some ce.cls → vx_W p l e R s m args below meth c H1 locs1 (cells + mc) (slots + ms) Q (F0 m pc ls rest) q9)
    (kk : ∀ (r : Int64) (u : S) (t : State) (H1 : Heap) (locs1 : List Loc), t.heap = H1 → s.vm.Alike t.vm → post r u → B u t → H.size ≤ H1.size → (∀ q : Nat, q < H.size → ¬ A1 q → H1[q]? = H[q]?) → va_S A0 H0 H1 locs1 → W p l e R s m args below meth c H1 locs1 (cells + mc) (slots + ms) Q (F0 m (pc + 3) ls (.long r :: rest))) : W p l e R s m args below meth c H locs cells slots Q (F0 m pc ls st0) := by
  intro T hT X
  rcases hr T hT X with ⟨v, st₀, t, T', L, h0, X', hL, e1, e2, ⟨⟨r, u, hv, hp, hb⟩, hF⟩, st⟩ | ⟨q, st₀, t, T', L, E, ce, h0, X', hL, e1, e2, ⟨u, hp, hb, hF⟩, hce, hcv, hcl, st⟩
  · cases hv
    obtain ⟨k1, k2, k3⟩ := vx_keep h0 e1 hS hA hf hL hF
    obtain ⟨t2, a1, b1⟩ := kk r u t T'.heap (locs ++ L) e1.symm (by rw [← e2]; exact X'.warmed.alike) hp hb k1 k2 k3 T' rfl X'
    exact ⟨t2, st t2 a1, b1⟩
  · obtain ⟨k1, k2, k3⟩ := vx_keep h0 e1 hS hAX hf hL hF
    obtain ⟨t2, a1, b1⟩ := kx E ce q u t T'.heap (locs ++ L) e1.symm (by rw [← e2]; exact X'.warmed.alike) hp hb k1 k2 k3 (by rw [e1]; exact hce) hcv hcl T' rfl X'
    exact ⟨t2, st.trans a1, b1⟩
theorem vx_callf {S SX : Type} {post : UInt32 → S → Prop} {px : SX → Prop} {B : S → State → Prop} {BX : String → SX → State → Prop} {AX : Nat → Prop} (hr : vx_Run p l e R s m args below meth c H locs cells slots mc ms (F0 m pc ls st0) rest (va_Qf post B A1 a) (vx_X px BX AX) free) (hS : va_S A0 H0 H locs) (hA : ∀ q, q < H.size → A1 q → A0 q) (hf : ∀ q, free q → A0 q) (hAX : ∀ q, q < H.size → AX q → A0 q)
    (kx : ∀ (E : String) (ce : Cell) (q9 : Addr) (u : SX) (t : State) (H1 : Heap) (locs1 : List Loc), t.heap = H1 → s.vm.Alike t.vm → px u → BX E u t → H.size ≤ H1.size → (∀ q : Nat, q < H.size → ¬ AX q → H1[q]? = H[q]?) → va_S A0 H0 H1 locs1 → H1[q9]? = some ce → ce.vm = .none → s.vm.findClass E = some ce.cls → vx_W p l e R s m args below meth c H1 locs1 (cells + mc) (slots + ms) Q (F0 m pc ls rest) q9)
    (kk : ∀ (r : UInt32) (u : S) (t : State) (H1 : Heap) (locs1 : List Loc), t.heap = H1 → s.vm.Alike t.vm → post r u → B u t → H.size ≤ H1.size → (∀ q : Nat, q < H.size → ¬ A1 q → H1[q]? = H[q]?) → va_S A0 H0 H1 locs1 → W p l e R s m args below meth c H1 locs1 (cells + mc) (slots + ms) Q (F0 m (pc + 3) ls (.float r :: rest))) : W p l e R s m args below meth c H locs cells slots Q (F0 m pc ls st0) := by
  intro T hT X
  rcases hr T hT X with ⟨v, st₀, t, T', L, h0, X', hL, e1, e2, ⟨⟨r, u, hv, hp, hb⟩, hF⟩, st⟩ | ⟨q, st₀, t, T', L, E, ce, h0, X', hL, e1, e2, ⟨u, hp, hb, hF⟩, hce, hcv, hcl, st⟩
  · cases hv
    obtain ⟨k1, k2, k3⟩ := vx_keep h0 e1 hS hA hf hL hF
    obtain ⟨t2, a1, b1⟩ := kk r u t T'.heap (locs ++ L) e1.symm (by rw [← e2]; exact X'.warmed.alike) hp hb k1 k2 k3 T' rfl X'
    exact ⟨t2, st t2 a1, b1⟩
  · obtain ⟨k1, k2, k3⟩ := vx_keep h0 e1 hS hAX hf hL hF
    obtain ⟨t2, a1, b1⟩ := kx E ce q u t T'.heap (locs ++ L) e1.symm (by rw [← e2]; exact X'.warmed.alike) hp hb k1 k2 k3 (by rw [e1]; exact hce) hcv hcl T' rfl X'
    exact ⟨t2, st.trans a1, b1⟩
theorem vx_calld {S SX : Type} {post : UInt64 → S → Prop} {px : SX → Prop} {B : S → State → Prop} {BX : String → SX → State → Prop} {AX : Nat → Prop} (hr : vx_Run p l e R s m args below meth c H locs cells slots mc ms (F0 m pc ls st0) rest (va_Qd post B A1 a) (vx_X px BX AX) free) (hS : va_S A0 H0 H locs) (hA : ∀ q, q < H.size → A1 q → A0 q) (hf : ∀ q, free q → A0 q) (hAX : ∀ q, q < H.size → AX q → A0 q)
    (kx : ∀ (E : String) (ce : Cell) (q9 : Addr) (u : SX) (t : State) (H1 : Heap) (locs1 : List Loc), t.heap = H1 → s.vm.Alike t.vm → px u → BX E u t → H.size ≤ H1.size → (∀ q : Nat, q < H.size → ¬ AX q → H1[q]? = H[q]?) → va_S A0 H0 H1 locs1 → H1[q9]? = some ce → ce.vm = .none → s.vm.findClass E = some ce.cls → vx_W p l e R s m args below meth c H1 locs1 (cells + mc) (slots + ms) Q (F0 m pc ls rest) q9)
    (kk : ∀ (r : UInt64) (u : S) (t : State) (H1 : Heap) (locs1 : List Loc), t.heap = H1 → s.vm.Alike t.vm → post r u → B u t → H.size ≤ H1.size → (∀ q : Nat, q < H.size → ¬ A1 q → H1[q]? = H[q]?) → va_S A0 H0 H1 locs1 → W p l e R s m args below meth c H1 locs1 (cells + mc) (slots + ms) Q (F0 m (pc + 3) ls (.double r :: rest))) : W p l e R s m args below meth c H locs cells slots Q (F0 m pc ls st0) := by
  intro T hT X
  rcases hr T hT X with ⟨v, st₀, t, T', L, h0, X', hL, e1, e2, ⟨⟨r, u, hv, hp, hb⟩, hF⟩, st⟩ | ⟨q, st₀, t, T', L, E, ce, h0, X', hL, e1, e2, ⟨u, hp, hb, hF⟩, hce, hcv, hcl, st⟩
  · cases hv
    obtain ⟨k1, k2, k3⟩ := vx_keep h0 e1 hS hA hf hL hF
    obtain ⟨t2, a1, b1⟩ := kk r u t T'.heap (locs ++ L) e1.symm (by rw [← e2]; exact X'.warmed.alike) hp hb k1 k2 k3 T' rfl X'
    exact ⟨t2, st t2 a1, b1⟩
  · obtain ⟨k1, k2, k3⟩ := vx_keep h0 e1 hS hAX hf hL hF
    obtain ⟨t2, a1, b1⟩ := kx E ce q u t T'.heap (locs ++ L) e1.symm (by rw [← e2]; exact X'.warmed.alike) hp hb k1 k2 k3 (by rw [e1]; exact hce) hcv hcl T' rfl X'
    exact ⟨t2, st.trans a1, b1⟩
theorem vx_callv {S SX : Type} {post : S → Prop} {px : SX → Prop} {B : S → State → Prop} {BX : String → SX → State → Prop} {AX : Nat → Prop} (hr : vx_Run p l e R s m args below meth c H locs cells slots mc ms (F0 m pc ls st0) rest (va_Qv post B A1 a) (vx_X px BX AX) free) (hS : va_S A0 H0 H locs) (hA : ∀ q, q < H.size → A1 q → A0 q) (hf : ∀ q, free q → A0 q) (hAX : ∀ q, q < H.size → AX q → A0 q)
    (kx : ∀ (E : String) (ce : Cell) (q9 : Addr) (u : SX) (t : State) (H1 : Heap) (locs1 : List Loc), t.heap = H1 → s.vm.Alike t.vm → px u → BX E u t → H.size ≤ H1.size → (∀ q : Nat, q < H.size → ¬ AX q → H1[q]? = H[q]?) → va_S A0 H0 H1 locs1 → H1[q9]? = some ce → ce.vm = .none → s.vm.findClass E = some ce.cls → vx_W p l e R s m args below meth c H1 locs1 (cells + mc) (slots + ms) Q (F0 m pc ls rest) q9)
    (kk : ∀ (u : S) (t : State) (H1 : Heap) (locs1 : List Loc), t.heap = H1 → s.vm.Alike t.vm → post u → B u t → H.size ≤ H1.size → (∀ q : Nat, q < H.size → ¬ A1 q → H1[q]? = H[q]?) → va_S A0 H0 H1 locs1 → W p l e R s m args below meth c H1 locs1 (cells + mc) (slots + ms) Q (F0 m (pc + 3) ls (rest))) : W p l e R s m args below meth c H locs cells slots Q (F0 m pc ls st0) := by
  intro T hT X
  rcases hr T hT X with ⟨v, st₀, t, T', L, h0, X', hL, e1, e2, ⟨⟨u, hv, hp, hb⟩, hF⟩, st⟩ | ⟨q, st₀, t, T', L, E, ce, h0, X', hL, e1, e2, ⟨u, hp, hb, hF⟩, hce, hcv, hcl, st⟩
  · cases hv
    obtain ⟨k1, k2, k3⟩ := vx_keep h0 e1 hS hA hf hL hF
    obtain ⟨t2, a1, b1⟩ := kk u t T'.heap (locs ++ L) e1.symm (by rw [← e2]; exact X'.warmed.alike) hp hb k1 k2 k3 T' rfl X'
    exact ⟨t2, st t2 a1, b1⟩
  · obtain ⟨k1, k2, k3⟩ := vx_keep h0 e1 hS hAX hf hL hF
    obtain ⟨t2, a1, b1⟩ := kx E ce q u t T'.heap (locs ++ L) e1.symm (by rw [← e2]; exact X'.warmed.alike) hp hb k1 k2 k3 (by rw [e1]; exact hce) hcv hcl T' rfl X'
    exact ⟨t2, st.trans a1, b1⟩
/-- caught by the row x of this method's table; the rows ahead don't take it -/
theorem vx_catch {own name : String} {E : String} {ce : Cell} {q : Addr} (hown : s.vm.findClass own = some m.cls) (pre : List ExceptionTableEntry) (x : ExceptionTableEntry) (suf : List ExceptionTableEntry) (hsplit : c.exceptionTable.toList = pre ++ x :: suf)
    (hpass : ∀ z ∈ pre, covers z pc = false ∨ (z.catchType ≠ 0 ∧ ∃ nm : String, (Cond.classLink own z.catchType nm).before args s = true ∧ va_Nc E nm s)) (hx : covers x pc = true) (h0 : x.catchType ≠ 0)
    (hlink : (Cond.classLink own x.catchType name).before args s = true) (hcast : (Cond.castable E name).before args s = true) (hcell : H[q]? = some ce) (hv : ce.vm = .none) (hcl : s.vm.findClass E = some ce.cls)
    (kk : W p l e R s m args below meth c H locs cells slots Q (F0 m x.handlerPc ls [.ref q])) : vx_W p l e R s m args below meth c H locs cells slots Q (F0 m pc ls rest) q := by
  intro T hT X
  have hpl : e.platform.magicAccessors = ({} : Platform).magicAccessors := by rw [X.admits.platform]
  obtain ⟨c3, c4, hc3, hc4, hasg⟩ := Cond.castable_spec hcast
  cases Option.some.inj (hc3.symm.trans hcl)
  obtain ⟨c5, hc5, hcl5⟩ := Cond.classLink_spec hown hlink e.platform hpl
  cases Option.some.inj (hc4.symm.trans hc5)
  obtain ⟨vm', X', st⟩ := X.thenCaughtThrough q (g := F0 m pc ls rest) rfl (Steps.refl _) (by rw [hT]; exact hcell) (by rw [hv]; rfl) (by obtain ⟨k9, h9, -⟩ := Vm.findClass_spec hcl; exact ⟨k9, h9⟩) pre x suf hsplit
    (fun z hz => by
      rcases hpass z hz with h | ⟨hz0, nm, hl1, hn1⟩
      · exact Or.inl h
      · obtain ⟨c6, hc6, hcl6⟩ := Cond.classLink_spec hown hl1 e.platform hpl
        obtain ⟨a8, b8, h1, h2, h3⟩ := hn1
        cases Option.some.inj (h1.symm.trans hcl)
        cases Option.some.inj (h2.symm.trans hc6)
        exact Or.inr ⟨hz0, _, hcl6, h3⟩) hx (Or.inr ⟨h0, c4, hcl5, hasg⟩)
  obtain ⟨t, a1, b1⟩ := kk (T.setVm vm') hT X'
  exact ⟨t, st.trans a1, b1⟩
end Rows
section Ends
variable {p : Program} {l : Launch} {e : Env} {R : Room} {s : State} {m : MethodId} {args : Array Value} {below : List Frame} {meth : Method} {c : Code} {H : Heap} {locs : List Loc} {cells slots : Nat} {Q : State → Prop}
variable {mc ms : Nat} {free : Addr → Prop} {A0 A1 : Nat → Prop} {H0 : Heap} {a : Array Value} {ls : Array Slot} {st0 rest : List Value}
variable {Qc : Array Value → State → Outcome → State → Prop} {XC : String → State → State → Prop}
/-- what a body that may throw owes at its end -/
def vx_MQ (below : List Frame) (Qc : Array Value → State → Outcome → State → Prop) (XC : String → State → State → Prop) (a : Array Value) (s : State) (mc ms : Nat) (free : Addr → Prop) : State → Prop := fun t =>
  ∃ o, t.status = .running ∧ Ended t below o ∧ vx_Q Qc XC mc ms free a s o t
theorem vx_ret {g : JFrame} {mc ms : Nat} (k : W p l e R s m args below meth c H locs cells slots (MQ below Qc args s mc ms free) g) : W p l e R s m args below meth c H locs cells slots (vx_MQ below Qc XC args s mc ms free) g := by
  intro T hT X
  obtain ⟨t, a1, o, b1, b2, b3, b4⟩ := k T hT X
  exact ⟨t, a1, o, b1, b2, Or.inl ⟨b3, b4⟩⟩
/-- not caught here: it goes on to the caller -/
theorem vx_widen {g : JFrame} {q : Addr} {k n : Nat} (h1 : cells ≤ k) (h2 : slots ≤ n) (kk : vx_W p l e R s m args below meth c H locs k n Q g q) : vx_W p l e R s m args below meth c H locs cells slots Q g q := fun T hT X => kk T hT (stand_widen X h1 h2)
theorem vx_out {pc : Nat} {E : String} {ce : Cell} {q : Addr} {mc ms : Nat} (hout : ∀ x ∈ c.exceptionTable.toList, covers x pc = false) (hlocks : meth.locks = false) (hcell : H[q]? = some ce) (hv : ce.vm = .none) (hcl : s.vm.findClass E = some ce.cls)
    (hx : ∀ t : State, t.heap = H → s.vm.Alike t.vm → XC E s t) (hf : ∀ z ∈ locs, free z.base) (hc : cells ≤ mc) (hs : slots ≤ ms) :
    vx_W p l e R s m args below meth c H locs cells slots (vx_MQ below Qc XC args s mc ms free) (F0 m pc ls rest) q := by
  intro T hT X
  obtain ⟨st1, hrun, hend, hW, hsm⟩ := X.leaveThrown q (g := F0 m pc ls rest) rfl rfl rfl hout hlocks
  have hcell9 : (T.setFrames (.throwing q :: below)).heap[q]? = some ce := by
    show T.heap[q]? = some ce
    rw [hT]; exact hcell
  exact ⟨_, st1, .threw q, hrun, hend, Or.inr ⟨q, rfl, E, ce, locs, hx _ hT hW.alike, hcell9, hv, hcl, hW, hsm.mono hc hs, hf⟩⟩
theorem vx_frame {U : State} {k n : Nat} (h : s.sameButNew ({ U with vm := s.vm } : State) locs k n) : s.heap.size ≤ U.heap.size ∧ ∀ q : Nat, q < s.heap.size → (∀ z ∈ locs, z.base ≠ q) → U.heap[q]? = s.heap[q]? := by
  obtain ⟨-, h2, -, -, -, h6⟩ := h
  refine ⟨h2, fun q hq hz => ?_⟩
  obtain ⟨c9, e1, e2, e3, e4⟩ := h6 q _ (Array.getElem?_eq_getElem hq)
  have hs : c9.slots = (s.heap[q]).slots := Array.ext_getElem? fun i => e4 i fun hm => hz _ hm rfl
  have h9 : c9 = s.heap[q] := by
    rw [hs] at e2
    exact e2
  have e5 : U.heap[q]? = some c9 := e1
  rw [e5, h9, Array.getElem?_eq_getElem hq]
/-- the words of a throw but the four that speak of the heap -/
def vx_no (w : Cond) : Bool := decide (w ≠ .isRef (.static Bundle.tN "UNASSIGNED_STACK" Bundle.steD)) && decide (w ≠ .isRef (.static Bundle.tN "SUPPRESSED_SENTINEL" Bundle.listD)) && decide (w ≠ .laysStatic Bundle.tN "UNASSIGNED_STACK" Bundle.steD) && decide (w ≠ .laysStatic Bundle.tN "SUPPRESSED_SENTINEL" Bundle.listD)
def vx_at0 (own : String) (ic : Nat) (X : String) (names : List String) : List Cond := (Bundle.ownAtoms0 own ic X names).filter vx_no
def vx_atS (own : String) (ic : Nat) (X : String) (names : List String) : List Cond := (Bundle.ownAtoms own ic X names).filter vx_no
/-- a word that the tables alone decide, or a good one -/
def vx_ot (w : Cond) : Bool := w.onTables || goodWord w
theorem vx_ot_at {args a' : Array Value} {s U : State} {w : Cond} (hW : s.WarmedH U.vm) (hvm : s.vm = U.vm) (hg : vx_ot w = true) (h : w.before args s = true) : w.before a' U = true := by
  simp only [vx_ot, Bool.or_eq_true] at hg
  rcases hg with hg | hg
  · exact va_tabs hg hvm h
  · exact word_at hW (good_of_word hg) h
/-- a list's words: the good ones out of the method's own list, the others by premises of their own -/
theorem vx_hat {args : Array Value} {s : State} {L B : List Cond} (h1 : ∀ w ∈ L.filter goodWord, w.before args s = true) (h2 : ∀ w ∈ L.filter (fun w => !goodWord w), w ∈ B) (h3 : ∀ w ∈ B, w.before args s = true) : ∀ w ∈ L, w.before args s = true := by
  intro w hw
  by_cases g : goodWord w = true
  · exact h1 w (List.mem_filter.mpr ⟨hw, g⟩)
  · refine h3 w (h2 w (List.mem_filter.mpr ⟨hw, ?_⟩))
    show (!goodWord w) = true
    cases hgw : goodWord w
    · rfl
    · exact absurd hgw g
theorem vx_c {args : Array Value} {s : State} {w : Cond} {B : List Cond} (h : w.before args s = true) (t : ∀ w ∈ B, w.before args s = true) : ∀ w' ∈ w :: B, w'.before args s = true := fun w' h' => (List.mem_cons.mp h').elim (fun e => by rw [e]; exact h) (t w')
theorem vx_n {args : Array Value} {s : State} : ∀ w ∈ ([] : List Cond), w.before args s = true := fun _ h => nomatch h
theorem vx_own {args : Array Value} {s : State} {L : List Cond} (h1 : ∀ w ∈ L.filter vx_no, w.before args s = true)
    (hU : (Cond.isRef (.static Bundle.tN "UNASSIGNED_STACK" Bundle.steD)).before args s = true) (hN : (Cond.isRef (.static Bundle.tN "SUPPRESSED_SENTINEL" Bundle.listD)).before args s = true)
    (lU : (Cond.laysStatic Bundle.tN "UNASSIGNED_STACK" Bundle.steD).before args s = true) (lN : (Cond.laysStatic Bundle.tN "SUPPRESSED_SENTINEL" Bundle.listD).before args s = true) : ∀ w ∈ L, w.before args s = true := by
  intro w hw
  by_cases e1 : w = .isRef (.static Bundle.tN "UNASSIGNED_STACK" Bundle.steD)
  · rw [e1]; exact hU
  · by_cases e2 : w = .isRef (.static Bundle.tN "SUPPRESSED_SENTINEL" Bundle.listD)
    · rw [e2]; exact hN
    · by_cases e3 : w = .laysStatic Bundle.tN "UNASSIGNED_STACK" Bundle.steD
      · rw [e3]; exact lU
      · by_cases e4 : w = .laysStatic Bundle.tN "SUPPRESSED_SENTINEL" Bundle.listD
        · rw [e4]; exact lN
        · exact h1 w (List.mem_filter.mpr ⟨hw, by unfold vx_no; rw [decide_eq_true e1, decide_eq_true e2, decide_eq_true e3, decide_eq_true e4]; rfl⟩)
/-- where a static field lies, its class's statics cell in H -/
def vx_L (C n d : String) (A : Nat → Prop) (U : State) (H : Heap) : Prop := ∃ (c : ClassId) (k : Class) (i : Nat) (f : Field) (a : Nat) (cell : Cell), U.vm.findClass C = some c ∧ U.fieldFound? C n d = some (c, k, i, f) ∧ f.isStatic = true ∧ k.statics = some a ∧ H[a]? = some cell ∧ cell.vm.isStatics = true ∧ cell.cls = c ∧ f.slot < cell.slots.size ∧ k.staticTypes[f.slot]? = some f.type ∧ ¬ A a
theorem vx_L.moved {C n d : String} {A : Nat → Prop} {u U : State} {H : Heap} (hvm : u.vm.Alike U.vm) (h : vx_L C n d A u H) : vx_L C n d A U H := by
  obtain ⟨c, k, i, f, a, cell, h1, h2, h3, h4, h5, h6, h7, h8, h9, h10⟩ := h
  obtain ⟨k', hi', he⟩ := State.fieldFound?_setVm hvm h2
  exact ⟨c, k', i, f, a, cell, by rw [hvm.findClass]; exact h1, hi', h3, by rw [he]; exact h4, h5, h6, h7, h8, by rw [he]; exact h9, h10⟩
theorem vx_L.kept {C n d : String} {A : Nat → Prop} {U : State} {H H1 : Heap} (h : vx_L C n d A U H) (hq : ∀ a : Nat, a < H.size → ¬ A a → H1[a]? = H[a]?) : vx_L C n d A U H1 := by
  obtain ⟨c, k, i, f, a, cell, h1, h2, h3, h4, h5, h6, h7, h8, h9, h10⟩ := h
  exact ⟨c, k, i, f, a, cell, h1, h2, h3, h4, by rw [hq a (Array.getElem?_eq_some_iff.mp h5).1 h10]; exact h5, h6, h7, h8, h9, h10⟩
theorem vx_L.narrow {C n d : String} {A B : Nat → Prop} {U : State} {H : Heap} (h : vx_L C n d A U H) (hAB : ∀ q, B q → A q) : vx_L C n d B U H := by
  obtain ⟨c, k, i, f, a, cell, h1, h2, h3, h4, h5, h6, h7, h8, h9, h10⟩ := h
  exact ⟨c, k, i, f, a, cell, h1, h2, h3, h4, h5, h6, h7, h8, h9, fun z => h10 (hAB _ z)⟩
theorem vx_L.word {C n d : String} {A : Nat → Prop} {s : State} {args : Array Value} (h : vx_L C n d A s s.heap) : (Cond.laysStatic C n d).before args s = true := by
  obtain ⟨c, k, i, f, a, cell, h1, h2, h3, h4, h5, h6, h7, h8, h9, -⟩ := h
  show (Cond.laysStatic C n d).holds args s none s [] = true
  exact Cond.laysStatic_of h1 h2 h3 h4 h5 h6 h7 h8 h9
/-- .. and what it holds: null or some reference -/
def vx_Zq (C n d : String) (A : Nat → Prop) (U : State) (H : Heap) : Prop := va_Zq C n d A U H ∧ vx_L C n d A U H
theorem vx_Zq.moved {C n d : String} {A : Nat → Prop} {u U : State} {H : Heap} (hvm : u.vm.Alike U.vm) (h : vx_Zq C n d A u H) : vx_Zq C n d A U H := ⟨va_Zq.moved hvm h.1, vx_L.moved hvm h.2⟩
theorem vx_Zq.kept {C n d : String} {A : Nat → Prop} {U : State} {H H1 : Heap} (h : vx_Zq C n d A U H) (hq : ∀ a : Nat, a < H.size → ¬ A a → H1[a]? = H[a]?) : vx_Zq C n d A U H1 := ⟨va_Zq.kept h.1 hq, vx_L.kept h.2 hq⟩
theorem vx_Zq.narrow {C n d : String} {A B : Nat → Prop} {U : State} {H : Heap} (h : vx_Zq C n d A U H) (hAB : ∀ q, B q → A q) : vx_Zq C n d B U H := ⟨va_Zq.narrow h.1 hAB, vx_L.narrow h.2 hAB⟩
theorem vx_Zqof {args : Array Value} {s : State} {C n d : String} {A : Nat → Prop} (hl : (Cond.laysStatic C n d).before args s = true) (hini : (Cond.initialized C).before args s = true) (h : (Cond.isRef (.static C n d)).before args s = true) (hA : ∀ a : Nat, a < s.heap.size → ¬ A a) : vx_Zq C n d A s s.heap := by
  refine ⟨va_Zqof hl hini h hA, ?_⟩
  obtain ⟨c, k, i, f, a, cell, h1, h2, h3, h4, h5, h6, h7, h8, h9⟩ := Cond.laysStatic_spec hl
  exact ⟨c, k, i, f, a, cell, h1, h2, h3, h4, h5, h6, h7, h8, h9, hA a (Array.getElem?_eq_some_iff.mp h5).1⟩
theorem vx_isRef {C n d : String} {v : Value} {A : Nat → Prop} {s : State} {args : Array Value} (h : va_Z C n d v A s s.heap) (hv : v.isRef = true) : (Cond.isRef (.static C n d)).before args s = true := by
  obtain ⟨cf, kf, fi, f, a, cell, h1, h2, h3, h4, h5, h6, h7, -⟩ := h
  have he : (Term.static C n d).eval args s none [] s = some v := by
    simp [Term.eval, State.fieldNamed?, h1, h2, h4, h5, h6, h7]
  simp only [Cond.before, Cond.holds, Cond.value, he]
  cases v <;> simp_all [Value.isRef]
theorem vx_isRefq {C n d : String} {A : Nat → Prop} {s : State} {args : Array Value} (h : va_Zq C n d A s s.heap) : (Cond.isRef (.static C n d)).before args s = true := by
  rcases h with h | ⟨t, h⟩
  · exact vx_isRef h rfl
  · exact vx_isRef h rfl
/-- the same frame, seen from here: as if the method were called anew in this heap -/
theorem vx_rebase {T : State} (X : Stand p l e R s m args below meth c T locs cells slots) {R' : Room} (hf : R'.frames ≤ R.frames) (hl : R'.locals ≤ R.locals) (hc : cells + R'.cells ≤ R.cells) (hs : slots + R'.slots ≤ R.slots) :
    Stand p l e R' ((T.setVm s.vm).setFrames (.invoking m args :: below)) m args below meth c T [] 0 0 := by
  have htop : (T.setVm s.vm).topJava?.isSome := X.here.top
  have hF : ((T.setVm s.vm).setFrames (.invoking m args :: below)).frames = .invoking m args :: below := State.frames_setFrames _ (State.cur_lt_of_top htop)
  obtain ⟨g₀, hg0⟩ := Option.isSome_iff_exists.mp htop
  obtain ⟨r, hr⟩ := State.topJava?_eq_some.mp hg0
  have hl9 : e.platform.stackLimits (T.setVm s.vm).me = e.platform.stackLimits s.me := X.limits
  have hb9 : (T.setVm s.vm).me.stackBytes = s.me.stackBytes := X.bytes
  refine ⟨X.admits, X.cas, X.clock, hF, ?_, X.hears, X.method, X.code, X.here, X.tail, X.warmed, ?_, ?_, ?_⟩
  · have h := X.room
    have hU : ((T.setVm s.vm).setFrames (.invoking m args :: below)).localsInUse = s.localsInUse := by
      rw [State.localsInUse_invoking hF (meth := meth) (c := c) X.method X.code, State.localsInUse_invoking X.frames X.method X.code]
    simp only [State.hasRoom, Bool.and_eq_true, decide_eq_true_eq] at h ⊢
    obtain ⟨⟨⟨⟨h1, h2, h3, h4, h5, h6⟩, h7⟩, h8⟩, h9⟩ := h
    rw [X.frames, List.length_cons] at h2 h3
    have q1 := X.heapSize
    have q2 := X.used
    simp only [hF, hU, List.length_cons, State.stackLimits_setFrames, State.stackBytes_setFrames, hl9, hb9]
    refine ⟨⟨⟨⟨by omega, by omega, by omega, by omega, by omega, h6⟩, ?_⟩, ?_⟩, X.book⟩
    · show T.heap.size + R'.cells ≤ e.platform.maxCells
      omega
    · show T.slotsUsed + R'.slots ≤ e.platform.maxSlots
      omega
  · rw [State.stackLimits_setFrames]; rfl
  · rw [State.stackBytes_setFrames]; rfl
  · refine ⟨?_, Nat.le_refl _, Nat.le_refl _, ?_, ?_, fun a c9 h9 => ⟨c9, h9, rfl, rfl, fun _ _ => rfl⟩⟩
    · obtain ⟨t, ht, -⟩ := State.frames_cons hr
      show T.setVm s.vm = { ((T.setVm s.vm).setFrames (.invoking m args :: below)).setFrames (T.setVm s.vm).frames with heap := T.heap, slotsUsed := T.slotsUsed }
      rw [State.setFrames_setFrames, State.setFrames_self ht]
      rfl
    · show T.slotsUsed = T.slotsUsed + ((T.heap.toList.drop T.heap.size).map (·.slots.size)).sum
      rw [List.drop_eq_nil_of_le (Nat.le_of_eq Array.length_toList)]
      rfl
    · show ((T.heap.toList.drop T.heap.size).map (·.slots.size)).sum ≤ 0
      rw [List.drop_eq_nil_of_le (Nat.le_of_eq Array.length_toList)]
      exact Nat.le_refl _
/-- 'throw new E()': new; dup; invokespecial; athrow -/
theorem vx_throw0 {cc : ByteArray} {pc : Nat} (hexec : p.tables.exec = Jvm.exec) (hb : c.code = cc) (hl : l.stackTraces = false) {own cls : String} {names : List String} {ik ic mc ms : Nat} {A : Nat → Prop}
    (hown : s.vm.findClass own = some m.cls) (hcls : Bundle.fit cls = true) (hnames : ∀ n ∈ names, Bundle.fit n = true)
    (hk : (Cond.classLink own ik cls).before args s = true) (hini : (Cond.initialized cls).before args s = true) (hat : ∀ w ∈ vx_at0 own ic cls names, w.before args s = true)
    (hgood : ∀ w ∈ Cond.classLink own ik cls :: Cond.initialized cls :: vx_at0 own ic cls names, vx_ot w = true)
    (hU : vx_Zq Bundle.tN "UNASSIGNED_STACK" Bundle.steD A s s.heap) (hN : vx_Zq Bundle.tN "SUPPRESSED_SENTINEL" Bundle.listD A s s.heap) (hS : va_S A s.heap H locs) (hsize : ls.size = c.maxLocals)
    (d0 : decode cc pc = .ok (.new ik, 3)) (d3 : decode cc (pc + 3) = .ok (.dup, 1)) (d4 : decode cc (pc + 4) = .ok (.invokespecial ic, 3)) (d7 : decode cc (pc + 7) = .ok (.athrow, 1))
    (hout : ∀ x ∈ c.exceptionTable.toList, covers x (pc + 7) = false)
    (hRframes : names.length + 3 < R.frames) (hRlocals : (rest.map fun v => v.category).sum + (13 * (names.length + 1) + 42) ≤ R.locals) (hRcells : cells + 1 ≤ R.cells) (hRslots : slots + 6 ≤ R.slots) (hlocks : meth.locks = false)
    (hx : ∀ t : State, s.vm.Alike t.vm → H.size ≤ t.heap.size → (∀ q : Nat, q < H.size → t.heap[q]? = H[q]?) → XC cls s t)
    (hf : ∀ z ∈ locs, free z.base) (hc : cells + 1 ≤ mc) (hs : slots + 6 ≤ ms) :
    W p l e R s m args below meth c H locs cells slots (vx_MQ below Qc XC args s mc ms free) (F0 m pc ls rest) := by
  intro T hT X
  have htr : e.platform.stackTraces = false := (show e.platform.stackTraces = l.stackTraces by rw [X.admits.platform]).trans hl
  have Y := vx_rebase X (R' := { frames := R.frames, locals := R.locals, cells := 1, slots := 6 }) (Nat.le_refl _) (Nat.le_refl _) hRcells hRslots
  obtain ⟨s', hA⟩ : ∃ z, z = (T.setVm s.vm).setFrames (.invoking m args :: below) := ⟨_, rfl⟩
  rw [← hA] at Y
  have hvm : s'.vm = s.vm := by rw [hA]; rfl
  have hhp : s'.heap = H := by rw [hA]; exact hT
  have hW0 : s.WarmedH s'.vm := by rw [hvm]; exact State.WarmedH.refl s
  have hat' : ∀ w ∈ vx_at0 own ic cls names, w.before args s' = true := fun w hw => vx_ot_at hW0 hvm.symm (hgood w (List.mem_cons_of_mem _ (List.mem_cons_of_mem _ hw))) (hat w hw)
  have hk' : (Cond.classLink own ik cls).before args s' = true := vx_ot_at hW0 hvm.symm (hgood _ List.mem_cons_self) hk
  have hini' : (Cond.initialized cls).before args s' = true := vx_ot_at hW0 hvm.symm (hgood _ (List.mem_cons_of_mem _ List.mem_cons_self)) hini
  have hU' : vx_Zq Bundle.tN "UNASSIGNED_STACK" Bundle.steD A s' s'.heap := by rw [hhp]; exact vx_Zq.moved hW0.alike (hU.kept hS.2.1)
  have hN' : vx_Zq Bundle.tN "SUPPRESSED_SENTINEL" Bundle.listD A s' s'.heap := by rw [hhp]; exact vx_Zq.moved hW0.alike (hN.kept hS.2.1)
  have h : ∀ w ∈ Bundle.ownAtoms0 own ic cls names, w.before args s' = true := vx_own hat' (vx_isRefq hU'.1) (vx_isRefq hN'.1) hU'.2.word hN'.2.word
  have hown' : s'.vm.findClass own = some m.cls := by rw [hvm]; exact hown
  have hins : (Cond.instantiable cls 6).before args s' = true := h _ (by simp [Bundle.ownAtoms0])
  obtain ⟨vm₁, cX, kX, hfX, hkX, -, -, X₁, st1⟩ := Y.newCold hexec (own := own) (C := cls) (index := ik) (n := 6) hown' hk' hins hini'
    (g := F0 m pc ls rest) rfl (by rw [hb]; exact d0) (Nat.le_refl _) (Nat.le_refl _)
  generalize hT1 : (T.setVm vm₁).pushCell { cls := cX, slots := kX.instanceTypes.map defaultValue, vm := .none } = T1 at X₁ st1
  have hcat : (Value.ref T.heap.size).category = 1 := rfl
  have hcellA : T1.heap[T.heap.size]? = some (freshCell cX kX) := by rw [← hT1]; exact State.heap_pushCell_size _ _
  have d3' : decode c.code (pc + 3) = .ok (.dup, 1) := by rw [hb]; exact d3
  obtain ⟨U, hsteps, hrun, hend, hW, hsame, ce, hce, hO⟩ := X₁.ctorThrow0 hexec htr (own := own) (cls := cls) (names := names) (ic := ic) hown' hcls hnames h (fun x hx => nomatch hx) hfX hkX hcellA (by rw [hhp, hT]; exact Nat.le_refl _)
    (g := { method := m, pc := pc + 4, locals := ls, stack := .ref T.heap.size :: .ref T.heap.size :: rest, locked := none }) rfl hsize rfl rfl (rest := rest) rfl
    (by rw [hb]; exact d4) (by rw [hb]; exact d7) hout hRframes (by simp only [List.map_cons, List.sum_cons, hcat]; omega) hlocks
  obtain ⟨f1, f2⟩ := vx_frame hsame
  rw [hhp] at f1 f2
  have hWs : s.WarmedH U.vm := State.WarmedH.trans hW0 hW
  have hcl : s.vm.findClass cls = some ce.cls := by
    have h9 := hO.cls
    rw [hvm] at h9
    exact h9
  have hall : s.sameButNew ({ U with vm := s.vm } : State) locs mc ms := by
    subst hA
    obtain ⟨e1, e2⟩ := hsame
    rw [State.setFrames_setFrames] at e1
    have h2 : (T.setVm s.vm).sameButNew ({ U with vm := s.vm } : State) [] (0 + 1) (0 + 6) := ⟨e1, e2⟩
    have h3 := X.same.trans h2
    rw [List.append_nil] at h3
    exact h3.mono hc hs
  refine ⟨U, ?_, .threw T.heap.size, hrun, hend, Or.inr ⟨T.heap.size, rfl, cls, ce, locs, hx U hWs.alike f1 (fun q hq => f2 q hq (fun z hz => nomatch hz)), hce, hO.vm, hcl, hWs, hall, hf⟩⟩
  refine st1 _ ?_
  show Steps p.tables e below (T1.setTop { method := m, pc := pc + 3, locals := ls, stack := .ref T.heap.size :: rest, locked := none }) _
  jvm_step X₁.here [X₁.here.top, hexec, d3', Value.category]
  exact hsteps
/-- 'throw new E("text")': new; dup; ldc; invokespecial; athrow -/
theorem vx_throwS {cc : ByteArray} {pc : Nat} (hexec : p.tables.exec = Jvm.exec) (hb : c.code = cc) (hl : l.stackTraces = false) {own cls text : String} {names : List String} {ik is ic mc ms sa : Nat} {A : Nat → Prop}
    (hown : s.vm.findClass own = some m.cls) (hcls : Bundle.fit cls = true) (hnames : ∀ n ∈ names, Bundle.fit n = true)
    (hk : (Cond.classLink own ik cls).before args s = true) (hini : (Cond.initialized cls).before args s = true) (hstr : vk_R own is text sa s) (hat : ∀ w ∈ vx_atS own ic cls names, w.before args s = true)
    (hgood : ∀ w ∈ Cond.classLink own ik cls :: Cond.initialized cls :: vx_atS own ic cls names, vx_ot w = true)
    (hU : vx_Zq Bundle.tN "UNASSIGNED_STACK" Bundle.steD A s s.heap) (hN : vx_Zq Bundle.tN "SUPPRESSED_SENTINEL" Bundle.listD A s s.heap) (hS : va_S A s.heap H locs) (hsize : ls.size = c.maxLocals)
    (d0 : decode cc pc = .ok (.new ik, 3)) (d3 : decode cc (pc + 3) = .ok (.dup, 1)) (d4 : decode cc (pc + 4) = .ok (.ldc is, 2)) (d6 : decode cc (pc + 6) = .ok (.invokespecial ic, 3)) (d9 : decode cc (pc + 9) = .ok (.athrow, 1))
    (hout : ∀ x ∈ c.exceptionTable.toList, covers x (pc + 9) = false)
    (hRframes : names.length + 3 < R.frames) (hRlocals : (rest.map fun v => v.category).sum + (13 * (names.length + 1) + 43) ≤ R.locals) (hRcells : cells + 1 ≤ R.cells) (hRslots : slots + 6 ≤ R.slots) (hlocks : meth.locks = false)
    (hx : ∀ t : State, s.vm.Alike t.vm → H.size ≤ t.heap.size → (∀ q : Nat, q < H.size → t.heap[q]? = H[q]?) → XC cls s t)
    (hf : ∀ z ∈ locs, free z.base) (hc : cells + 1 ≤ mc) (hs : slots + 6 ≤ ms) :
    W p l e R s m args below meth c H locs cells slots (vx_MQ below Qc XC args s mc ms free) (F0 m pc ls rest) := by
  intro T hT X
  have htr : e.platform.stackTraces = false := (show e.platform.stackTraces = l.stackTraces by rw [X.admits.platform]).trans hl
  have Y := vx_rebase X (R' := { frames := R.frames, locals := R.locals, cells := 1, slots := 6 }) (Nat.le_refl _) (Nat.le_refl _) hRcells hRslots
  obtain ⟨s', hA⟩ : ∃ z, z = (T.setVm s.vm).setFrames (.invoking m args :: below) := ⟨_, rfl⟩
  rw [← hA] at Y
  have hvm : s'.vm = s.vm := by rw [hA]; rfl
  have hhp : s'.heap = H := by rw [hA]; exact hT
  have hW0 : s.WarmedH s'.vm := by rw [hvm]; exact State.WarmedH.refl s
  have hat' : ∀ w ∈ vx_atS own ic cls names, w.before args s' = true := fun w hw => vx_ot_at hW0 hvm.symm (hgood w (List.mem_cons_of_mem _ (List.mem_cons_of_mem _ hw))) (hat w hw)
  have hk' : (Cond.classLink own ik cls).before args s' = true := vx_ot_at hW0 hvm.symm (hgood _ List.mem_cons_self) hk
  have hini' : (Cond.initialized cls).before args s' = true := vx_ot_at hW0 hvm.symm (hgood _ (List.mem_cons_of_mem _ List.mem_cons_self)) hini
  have hU' : vx_Zq Bundle.tN "UNASSIGNED_STACK" Bundle.steD A s' s'.heap := by rw [hhp]; exact vx_Zq.moved hW0.alike (hU.kept hS.2.1)
  have hN' : vx_Zq Bundle.tN "SUPPRESSED_SENTINEL" Bundle.listD A s' s'.heap := by rw [hhp]; exact vx_Zq.moved hW0.alike (hN.kept hS.2.1)
  have h : ∀ w ∈ Bundle.ownAtoms own ic cls names, w.before args s' = true := vx_own hat' (vx_isRefq hU'.1) (vx_isRefq hN'.1) hU'.2.word hN'.2.word
  have hown' : s'.vm.findClass own = some m.cls := by rw [hvm]; exact hown
  have hins : (Cond.instantiable cls 6).before args s' = true := h _ (by simp [Bundle.ownAtoms])
  obtain ⟨vm₁, cX, kX, hfX, hkX, -, -, X₁, st1⟩ := Y.newCold hexec (own := own) (C := cls) (index := ik) (n := 6) hown' hk' hins hini'
    (g := F0 m pc ls rest) rfl (by rw [hb]; exact d0) (Nat.le_refl _) (Nat.le_refl _)
  generalize hT1 : (T.setVm vm₁).pushCell { cls := cX, slots := kX.instanceTypes.map defaultValue, vm := .none } = T1 at X₁ st1
  have hcat : (Value.ref T.heap.size).category = 1 := rfl
  have hcellA : T1.heap[T.heap.size]? = some (freshCell cX kX) := by rw [← hT1]; exact State.heap_pushCell_size _ _
  have d3' : decode c.code (pc + 3) = .ok (.dup, 1) := by rw [hb]; exact d3
  have d4' : decode c.code (pc + 4) = .ok (.ldc is, 2) := by rw [hb]; exact d4
  have hstr' : vk_R own is text sa s' := vk_R.warm hW0 hstr
  obtain ⟨U, hsteps, hrun, hend, hW, hsame, ce, hce, hO⟩ := X₁.ctorThrowS hexec htr (own := own) (cls := cls) (names := names) (ic := ic) hown' hcls hnames h (fun x hx => nomatch hx) hfX hkX hcellA (by rw [hhp, hT]; exact Nat.le_refl _) (msg := .ref sa) rfl
    (g := { method := m, pc := pc + 6, locals := ls, stack := .ref sa :: .ref T.heap.size :: .ref T.heap.size :: rest, locked := none }) rfl hsize rfl rfl (rest := rest) rfl
    (by rw [hb]; exact d6) (by rw [hb]; exact d9) hout hRframes (by simp only [List.map_cons, List.sum_cons, hcat]; omega) hlocks
  obtain ⟨f1, f2⟩ := vx_frame hsame
  rw [hhp] at f1 f2
  have hWs : s.WarmedH U.vm := State.WarmedH.trans hW0 hW
  have hcl : s.vm.findClass cls = some ce.cls := by
    have h9 := hO.cls
    rw [hvm] at h9
    exact h9
  have hall : s.sameButNew ({ U with vm := s.vm } : State) locs mc ms := by
    subst hA
    obtain ⟨e1, e2⟩ := hsame
    rw [State.setFrames_setFrames] at e1
    have h2 : (T.setVm s.vm).sameButNew ({ U with vm := s.vm } : State) [] (0 + 1) (0 + 6) := ⟨e1, e2⟩
    have h3 := X.same.trans h2
    rw [List.append_nil] at h3
    exact h3.mono hc hs
  refine ⟨U, ?_, .threw T.heap.size, hrun, hend, Or.inr ⟨T.heap.size, rfl, cls, ce, locs, hx U hWs.alike f1 (fun q hq => f2 q hq (fun z hz => nomatch hz)), hce, hO.vm, hcl, hWs, hall, hf⟩⟩
  refine st1 _ ?_
  show Steps p.tables e below (T1.setTop { method := m, pc := pc + 3, locals := ls, stack := .ref T.heap.size :: rest, locked := none }) _
  jvm_step X₁.here [X₁.here.top, hexec, d3', Value.category]
  exact X₁.ldcString hexec (own := own) (text := text) (index := is) (a := sa) hown' hstr'.1 hstr'.2
    (g := { method := m, pc := pc + 4, locals := ls, stack := .ref T.heap.size :: .ref T.heap.size :: rest, locked := none }) rfl d4' _ hsteps
/-- 'throw new E("text")', the text by a wide index -/
theorem vx_throwSW {cc : ByteArray} {pc : Nat} (hexec : p.tables.exec = Jvm.exec) (hb : c.code = cc) (hl : l.stackTraces = false) {own cls text : String} {names : List String} {ik is ic mc ms sa : Nat} {A : Nat → Prop}
    (hown : s.vm.findClass own = some m.cls) (hcls : Bundle.fit cls = true) (hnames : ∀ n ∈ names, Bundle.fit n = true)
    (hk : (Cond.classLink own ik cls).before args s = true) (hini : (Cond.initialized cls).before args s = true) (hstr : vk_R own is text sa s) (hat : ∀ w ∈ vx_atS own ic cls names, w.before args s = true)
    (hgood : ∀ w ∈ Cond.classLink own ik cls :: Cond.initialized cls :: vx_atS own ic cls names, vx_ot w = true)
    (hU : vx_Zq Bundle.tN "UNASSIGNED_STACK" Bundle.steD A s s.heap) (hN : vx_Zq Bundle.tN "SUPPRESSED_SENTINEL" Bundle.listD A s s.heap) (hS : va_S A s.heap H locs) (hsize : ls.size = c.maxLocals)
    (d0 : decode cc pc = .ok (.new ik, 3)) (d3 : decode cc (pc + 3) = .ok (.dup, 1)) (d4 : decode cc (pc + 4) = .ok (.ldc_w is, 3)) (d7 : decode cc (pc + 7) = .ok (.invokespecial ic, 3)) (d10 : decode cc (pc + 10) = .ok (.athrow, 1))
    (hout : ∀ x ∈ c.exceptionTable.toList, covers x (pc + 10) = false)
    (hRframes : names.length + 3 < R.frames) (hRlocals : (rest.map fun v => v.category).sum + (13 * (names.length + 1) + 43) ≤ R.locals) (hRcells : cells + 1 ≤ R.cells) (hRslots : slots + 6 ≤ R.slots) (hlocks : meth.locks = false)
    (hx : ∀ t : State, s.vm.Alike t.vm → H.size ≤ t.heap.size → (∀ q : Nat, q < H.size → t.heap[q]? = H[q]?) → XC cls s t)
    (hf : ∀ z ∈ locs, free z.base) (hc : cells + 1 ≤ mc) (hs : slots + 6 ≤ ms) :
    W p l e R s m args below meth c H locs cells slots (vx_MQ below Qc XC args s mc ms free) (F0 m pc ls rest) := by
  intro T hT X
  have htr : e.platform.stackTraces = false := (show e.platform.stackTraces = l.stackTraces by rw [X.admits.platform]).trans hl
  have Y := vx_rebase X (R' := { frames := R.frames, locals := R.locals, cells := 1, slots := 6 }) (Nat.le_refl _) (Nat.le_refl _) hRcells hRslots
  obtain ⟨s', hA⟩ : ∃ z, z = (T.setVm s.vm).setFrames (.invoking m args :: below) := ⟨_, rfl⟩
  rw [← hA] at Y
  have hvm : s'.vm = s.vm := by rw [hA]; rfl
  have hhp : s'.heap = H := by rw [hA]; exact hT
  have hW0 : s.WarmedH s'.vm := by rw [hvm]; exact State.WarmedH.refl s
  have hat' : ∀ w ∈ vx_atS own ic cls names, w.before args s' = true := fun w hw => vx_ot_at hW0 hvm.symm (hgood w (List.mem_cons_of_mem _ (List.mem_cons_of_mem _ hw))) (hat w hw)
  have hk' : (Cond.classLink own ik cls).before args s' = true := vx_ot_at hW0 hvm.symm (hgood _ List.mem_cons_self) hk
  have hini' : (Cond.initialized cls).before args s' = true := vx_ot_at hW0 hvm.symm (hgood _ (List.mem_cons_of_mem _ List.mem_cons_self)) hini
  have hU' : vx_Zq Bundle.tN "UNASSIGNED_STACK" Bundle.steD A s' s'.heap := by rw [hhp]; exact vx_Zq.moved hW0.alike (hU.kept hS.2.1)
  have hN' : vx_Zq Bundle.tN "SUPPRESSED_SENTINEL" Bundle.listD A s' s'.heap := by rw [hhp]; exact vx_Zq.moved hW0.alike (hN.kept hS.2.1)
  have h : ∀ w ∈ Bundle.ownAtoms own ic cls names, w.before args s' = true := vx_own hat' (vx_isRefq hU'.1) (vx_isRefq hN'.1) hU'.2.word hN'.2.word
  have hown' : s'.vm.findClass own = some m.cls := by rw [hvm]; exact hown
  have hins : (Cond.instantiable cls 6).before args s' = true := h _ (by simp [Bundle.ownAtoms])
  obtain ⟨vm₁, cX, kX, hfX, hkX, -, -, X₁, st1⟩ := Y.newCold hexec (own := own) (C := cls) (index := ik) (n := 6) hown' hk' hins hini'
    (g := F0 m pc ls rest) rfl (by rw [hb]; exact d0) (Nat.le_refl _) (Nat.le_refl _)
  generalize hT1 : (T.setVm vm₁).pushCell { cls := cX, slots := kX.instanceTypes.map defaultValue, vm := .none } = T1 at X₁ st1
  have hcat : (Value.ref T.heap.size).category = 1 := rfl
  have hcellA : T1.heap[T.heap.size]? = some (freshCell cX kX) := by rw [← hT1]; exact State.heap_pushCell_size _ _
  have d3' : decode c.code (pc + 3) = .ok (.dup, 1) := by rw [hb]; exact d3
  have d4' : decode c.code (pc + 4) = .ok (.ldc_w is, 3) := by rw [hb]; exact d4
  have hstr' : vk_R own is text sa s' := vk_R.warm hW0 hstr
  obtain ⟨U, hsteps, hrun, hend, hW, hsame, ce, hce, hO⟩ := X₁.ctorThrowS hexec htr (own := own) (cls := cls) (names := names) (ic := ic) hown' hcls hnames h (fun x hx => nomatch hx) hfX hkX hcellA (by rw [hhp, hT]; exact Nat.le_refl _) (msg := .ref sa) rfl
    (g := { method := m, pc := pc + 7, locals := ls, stack := .ref sa :: .ref T.heap.size :: .ref T.heap.size :: rest, locked := none }) rfl hsize rfl rfl (rest := rest) rfl
    (by rw [hb]; exact d7) (by rw [hb]; exact d10) hout hRframes (by simp only [List.map_cons, List.sum_cons, hcat]; omega) hlocks
  obtain ⟨f1, f2⟩ := vx_frame hsame
  rw [hhp] at f1 f2
  have hWs : s.WarmedH U.vm := State.WarmedH.trans hW0 hW
  have hcl : s.vm.findClass cls = some ce.cls := by
    have h9 := hO.cls
    rw [hvm] at h9
    exact h9
  have hall : s.sameButNew ({ U with vm := s.vm } : State) locs mc ms := by
    subst hA
    obtain ⟨e1, e2⟩ := hsame
    rw [State.setFrames_setFrames] at e1
    have h2 : (T.setVm s.vm).sameButNew ({ U with vm := s.vm } : State) [] (0 + 1) (0 + 6) := ⟨e1, e2⟩
    have h3 := X.same.trans h2
    rw [List.append_nil] at h3
    exact h3.mono hc hs
  refine ⟨U, ?_, .threw T.heap.size, hrun, hend, Or.inr ⟨T.heap.size, rfl, cls, ce, locs, hx U hWs.alike f1 (fun q hq => f2 q hq (fun z hz => nomatch hz)), hce, hO.vm, hcl, hWs, hall, hf⟩⟩
  refine st1 _ ?_
  show Steps p.tables e below (T1.setTop { method := m, pc := pc + 3, locals := ls, stack := .ref T.heap.size :: rest, locked := none }) _
  jvm_step X₁.here [X₁.here.top, hexec, d3', Value.category]
  exact X₁.ldcStringW hexec (own := own) (text := text) (index := is) (a := sa) hown' hstr'.1 hstr'.2
    (g := { method := m, pc := pc + 4, locals := ls, stack := .ref T.heap.size :: .ref T.heap.size :: rest, locked := none }) rfl d4' _ hsteps
end Ends
section Bodies
variable {l : Launch}
theorem vx_ofW {y : MethodName} {ws ws' : List Cond} {rm : Room} {Pc : Array Value → State → Prop} {Qc : Array Value → State → Outcome → State → Prop} {XC : String → State → State → Prop} {mc ms : Nat} {free : Addr → Prop} {cc : ByteArray} {maxL : Nat} {ret : Option FieldType}
    (hy : plainName y.cls = true) (hw : ws = Cond.code y cc maxL ret :: ws')
    (body : ∀ p e s m args below meth c s₁, BodyLoose p l y (headSpec ws rm) cc maxL ret e s m args below meth c s₁ → c.maxLocals = maxL → (∀ x ∈ c.exceptionTable.toList, False) → Pc args s →
      W p l e (headSpec ws rm).room s m args below meth c s.heap [] 0 0 (vx_MQ below Qc XC args s mc ms free) (entryFrame m args maxL)) : vx_Met l y ws rm Pc Qc XC mc ms free := by
  refine MetFree.of_bodyS (code := cc) (maxLocals := maxL) (ret := ret) hy ?_ ?_
  · intro args s m h hn
    obtain ⟨meth, c, h1, h2, h3, h4, h5, h6, -, -⟩ := Cond.code_spec hn (atoms_spec (ws := ws) h _ (by rw [hw]; exact List.mem_cons_self))
    exact ⟨meth, c, h1, h2, h3, h4, h5, h6⟩
  · intro p e s m args below meth c s₁ B hml hP _
    have hh0 : s₁.heap = s.heap := by rw [B.state]; rfl
    have ht : ∀ x ∈ c.exceptionTable.toList, False := by
      obtain ⟨meth9, c9, h1, h2, -, -, -, -, h7, -⟩ := Cond.code_spec B.named (atoms_spec (ws := ws) B.pre _ (by rw [hw]; exact List.mem_cons_self))
      cases Option.some.inj (h1.symm.trans B.method)
      cases Option.some.inj (h2.symm.trans (Stand.of_body B).code)
      intro x hx
      rw [Array.isEmpty_iff.mp h7] at hx
      cases hx
    obtain ⟨t, a1, o, b1, b2, b3⟩ := body p e s m args below meth c s₁ B hml ht hP s₁ hh0 (Stand.of_body B)
    exact ⟨t, o, a1, b1, b2, b3⟩
/-- the table of a body with handlers -/
theorem vx_table {p : Program} {x y : MethodName} {S : Spec} {cc bytes : ByteArray} {maxL maxL' : Nat} {ret ret' : Option FieldType} {e : Env} {s s₁ : State} {m : MethodId} {args : Array Value} {below : List Frame} {meth : Method} {c : Code} {hh : List (Nat × Nat × Nat × Nat)}
    (B : BodyLoose p l y S cc maxL ret e s m args below meth c s₁) (h : (Cond.codeWith y bytes maxL' ret' hh).before args s = true) : c.exceptionTable.toList = tableOf hh := by
  obtain ⟨m9, meth9, c9, hn9, h1, h2, -, -, h6, -⟩ := Cond.codeWith_spec h
  cases Option.some.inj (hn9.symm.trans B.named)
  cases Option.some.inj (h1.symm.trans B.method)
  cases Option.some.inj (h2.symm.trans (Stand.of_body B).code)
  rw [← h6, table_eq]
end Bodies
end VXA
/-! ===== END ===== -/
/-! ===== BEGIN a static call of a method with an exception table ===== -/
section VXS
variable {p : Program} {l : Launch} {e : Env} {R : Room} {s : State} {m : MethodId} {args : Array Value} {below : List Frame} {meth : Method} {c : Code} {T : State} {H : Heap} {locs : List Loc} {cells slots : Nat}
abbrev vx_CSW (R : Room) (s : State) (args : Array Value) (own : String) (index : Nat) (y : MethodName) (bytes : ByteArray) (maxL : Nat) (ret : Option FieldType) (hh : List (Nat × Nat × Nat × Nat)) (ws : List Cond) (rm : Room) (mc ms n : Nat) : Prop :=
  (rm.cells = mc ∧ rm.slots = ms ∧ rm.frames + 1 ≤ R.frames ∧ 8 + (maxL + 11) + rm.locals ≤ R.locals ∧ (∀ w ∈ ws, ∀ (a' : Array Value) (U : State), s.WarmedH U.vm → w.before a' U = true) ∧ Cond.codeWith y bytes maxL ret hh ∈ ws) ∧
  (Cond.codeWith y bytes maxL ret hh).before args s = true ∧ (Cond.initialized y.cls).before args s = true ∧ (y.cls ≠ "java/lang/invoke/MethodHandle" ∧ y.cls ≠ "java/lang/invoke/VarHandle") ∧
  (∀ sig, parseMethodDescriptor y.desc = some sig → n = sig.parameters.length) ∧ (Cond.methodLink own index y).before args s = true ∧ (Cond.static y).before args s = true
theorem vx_cwSW {own : String} {index maxL mc ms : Nat} {y : MethodName} {bytes : ByteArray} {ret : Option FieldType} {hh : List (Nat × Nat × Nat × Nat)} {Ts ws ws' : List Cond} {rm : Room} (n : Nat) (ht : ∀ w ∈ Ts, w.before args s = true) (hT : GoodIn Ts (va_wsS own index y ws)) (hw : ws = Cond.codeWith y bytes maxL ret hh :: ws') (hrc : rm.cells = mc) (hrs : rm.slots = ms)
    (hd : y.cls ≠ "java/lang/invoke/MethodHandle" ∧ y.cls ≠ "java/lang/invoke/VarHandle" ∧ (parseMethodDescriptor y.desc).map (fun d => d.parameters.length) = some n) (hR : rm.frames + 1 ≤ R.frames ∧ 8 + (maxL + 11) + rm.locals ≤ R.locals) :
    vx_CSW R s args own index y bytes maxL ret hh ws rm mc ms n := by
  have ok : ∀ w ∈ va_wsS own index y ws, w.before args s = true := fun w h => ht w (hT w h).1
  have hG : GoodIn Ts ws := fun w h => hT w (by unfold va_wsS; exact List.mem_append_right _ h)
  have hc : Cond.codeWith y bytes maxL ret hh ∈ ws := by rw [hw]; exact List.mem_cons_self
  refine ⟨⟨hrc, hrs, hR.1, hR.2, pay_in ht hG, hc⟩, ht _ (hG _ hc).1, ok _ (by simp [va_wsS]), ⟨hd.1, hd.2.1⟩, fun sig h => ?_, ok _ (by simp [va_wsS]), ok _ (by simp [va_wsS])⟩
  have h2 := hd.2.2
  rw [h] at h2
  exact (Option.some.inj h2).symm
theorem vx_callSW (X : Stand p l e R s m args below meth c T locs cells slots) (hexec : p.tables.exec = Jvm.exec) {own : String} {index : Nat} {y : MethodName} {bytes : ByteArray} {maxL : Nat} {ret : Option FieldType} {hh : List (Nat × Nat × Nat × Nat)}
    (hown : s.vm.findClass own = some m.cls) (hlink : (Cond.methodLink own index y).before args s = true) (hstat : (Cond.static y).before args s = true) (hinit : (Cond.initialized y.cls).before args s = true)
    (hcode : (Cond.codeWith y bytes maxL ret hh).before args s = true) (hy : y.cls ≠ "java/lang/invoke/MethodHandle" ∧ y.cls ≠ "java/lang/invoke/VarHandle")
    {W9 : Nat} {Pre : Pt → Array Value → Prop} {Post : Pt → Array Value → Option Value → Pt → Prop} (hK : Back l R p e below s args y 3 W9 Pre Post)
    {g : JFrame} (hg : g.method = m) (hsize : g.locals.size = c.maxLocals) {argsL rest : List Value} (hlen : ∀ sig, parseMethodDescriptor y.desc = some sig → argsL.length = sig.parameters.length)
    (hstack : g.stack = argsL.reverse ++ rest) (hW : 2 * g.monitorRoom + (rest.map fun v => v.category).sum ≤ W9) (hdg : decode c.code g.pc = .ok (.invokestatic index, 3))
    (hpre : ∀ vm₁, s.WarmedH vm₁ → Pre ⟨T.setVm vm₁, locs, cells, slots⟩ argsL.toArray) :
    ∃ (v : Option Value) (vm₁ : Vm) (B : Pt), s.WarmedH vm₁ ∧ Stand p l e R s m args below meth c B.U B.locs B.cells B.slots ∧ Post ⟨T.setVm vm₁, locs, cells, slots⟩ argsL.toArray v B ∧
      ∀ target, Steps p.tables e below (B.U.setTop { g with pc := g.pc + 3, stack := v.toList ++ rest }) target → Steps p.tables e below (T.setTop g) target := by
  obtain ⟨mk, methM, cM, hnamed, hmethM, -, -, -, -, -, -, hsigM⟩ := Cond.codeWith_spec hcode
  have hstatic : methM.isStatic = true := Cond.static_spec hnamed hmethM hstat
  obtain ⟨kP, hkP, -⟩ := className_of_methodNamed hnamed
  have hinitP : kP.init = .initialized := Cond.initialized_spec (findClass_of_methodNamed hnamed) hkP hinit
  obtain ⟨vm₁, X₁, hstep₁⟩ := X.invokestatic hexec hown hlink hnamed hmethM hstatic hkP hinitP hy (g := g) hg (argsL := argsL) (rest := rest) (hlen _ hsigM) hstack hdg
  obtain ⟨v, B, X', hpost, hsteps⟩ := hK m meth c ⟨T.setVm vm₁, locs, cells, slots⟩ { g with stack := rest } (.invokestatic index) mk argsL.toArray X₁ hg hsize hdg hW (X₁.named hnamed) (hpre vm₁ X₁.warmed)
  exact ⟨v, vm₁, B, X₁.warmed, X', hpost, fun target h => hstep₁ _ fun acts => by rw [doInvoke_state]; exact hsteps.trans h⟩
theorem vx_runSW {y : MethodName} {bytes cc : ByteArray} {maxL nL mc ms n index : Nat} {ret : Option FieldType} {hh : List (Nat × Nat × Nat × Nat)} {ws : List Cond} {rm : Room} {Pc : Array Value → State → Prop} {Qc : Array Value → State → Outcome → State → Prop} {free : Addr → Prop} {Ts : List Cond} {own : String} {As rest : List Value} {g : JFrame}
    (S : CallFix p m c cc nL s args Ts own) (hM : Met l y ws rm Pc Qc mc ms free) (cw : vx_CSW R s args own index y bytes maxL ret hh ws rm mc ms n) (hp : PreS s H Pc As)
    (hg : g.method = m) (hn : As.length = n) (hsize : g.locals.size = nL) (hstack : g.stack = As.reverse ++ rest) (hW : 2 * g.monitorRoom + (rest.map fun v => v.category).sum ≤ 8) (hdg : decode cc g.pc = .ok (.invokestatic index, 3)) (hf : cells + mc ≤ R.cells ∧ slots + ms ≤ R.slots) :
    va_Run p l e R s m args below meth c H locs cells slots mc ms g rest (Qc As.toArray) (free) := by
  obtain ⟨⟨hrc, hrs, hfr, hlo, hws, hcw⟩, hcode, hini, hy, hlen, hl, hstt⟩ := cw
  have hK : Back l R p e below s args y 3 8 (PreOf R mc ms Pc) (PostOf Qc mc ms free) := va_backW (hh := hh) (bytes := bytes) (maxL := maxL) (ret := ret) hM hp.1 hrc hrs hfr hlo hws hcw (fun a' U hW => word_at hW (Or.inl (by first | rfl | simp [Cond.onTables, Cond.keeps, Cond.steady])) hini)
  obtain ⟨hx, hb, hml, ho, -⟩ := S
  intro T hT X
  obtain ⟨v, vm₁, ⟨U', l2, c2, s2⟩, hW₁, X', ⟨g', mk, t, L, e1, e2, hq, h1, hL, h2, h3⟩, st⟩ := vx_callSW X hx (hh := hh) (bytes := bytes) (maxL := maxL) (ret := ret) ho hl hstt hini hcode hy hK hg (hsize.trans hml.symm) (argsL := As) (rest := rest) (fun sig h => hn.trans (hlen sig h)) hstack hW (by rw [hb]; exact hdg)
    (fun vm₁ hW₁ => ⟨hf.1, hf.2, hp.2 (T.setVm vm₁) hT hW₁⟩)
  dsimp only [Pt.U, Pt.locs, Pt.cells, Pt.slots] at X' e1 e2 h1 h2 h3 st
  subst h1; subst h2; subst h3
  exact ⟨v, (T.setVm vm₁).calling g' mk As.toArray, t, U', L, hT, X', hL, e1, e2, hq, st⟩
/-- not caught here, past rows that name other classes: it goes on to the caller -/
theorem vx_outP {p : Program} {l : Launch} {e : Env} {R : Room} {s : State} {m : MethodId} {args : Array Value} {below : List Frame} {meth : Method} {c : Code} {H : Heap} {locs : List Loc} {cells slots : Nat} {free : Addr → Prop} {ls : Array Slot} {rest : List Value} {Qc : Array Value → State → Outcome → State → Prop} {XC : String → State → State → Prop}
    {pc : Nat} {own E : String} {ce : Cell} {q : Addr} {mc ms : Nat} (hown : s.vm.findClass own = some m.cls) (hlocks : meth.locks = false)
    (hpass : ∀ z ∈ c.exceptionTable.toList, covers z pc = false ∨ (z.catchType ≠ 0 ∧ ∃ nm : String, (Cond.classLink own z.catchType nm).before args s = true ∧ va_Nc E nm s)) (hcell : H[q]? = some ce) (hv : ce.vm = .none) (hcl : s.vm.findClass E = some ce.cls)
    (hx : ∀ t : State, t.heap = H → s.vm.Alike t.vm → XC E s t) (hf : ∀ z ∈ locs, free z.base) (hc : cells ≤ mc) (hs : slots ≤ ms) :
    vx_W p l e R s m args below meth c H locs cells slots (vx_MQ below Qc XC args s mc ms free) (F0 m pc ls rest) q := by
  intro T hT X
  have hpl : e.platform.magicAccessors = ({} : Platform).magicAccessors := by rw [X.admits.platform]
  obtain ⟨vm', hW', X', st⟩ := X.outThrough hlocks q (g := F0 m pc ls rest) rfl rfl rfl (cell := ce) (by rw [hT]; exact hcell) (by rw [hv]; rfl)
    (by obtain ⟨k9, h9, -⟩ := Vm.findClass_spec hcl; exact ⟨k9, h9⟩) (fun z hz => by
      rcases hpass z hz with h | ⟨hz0, nm, hl1, hn1⟩
      · exact Or.inl h
      · obtain ⟨c6, hc6, hcl6⟩ := Cond.classLink_spec hown hl1 e.platform hpl
        obtain ⟨a8, b8, h1, h2, h3⟩ := hn1
        cases Option.some.inj (h1.symm.trans hcl)
        cases Option.some.inj (h2.symm.trans hc6)
        exact Or.inr ⟨hz0, _, hcl6, h3⟩)
  obtain ⟨g₀, hfr⟩ := X'.frames_eq
  have hcell9 : ((T.setVm vm').setFrames (.throwing q :: below)).heap[q]? = some ce := by
    show T.heap[q]? = some ce
    rw [hT]; exact hcell
  have hend : Ended ((T.setVm vm').setFrames (.throwing q :: below)) below (.threw q) := State.frames_setFrames _ (State.cur_lt_of_frames hfr)
  refine ⟨(T.setVm vm').setFrames (.throwing q :: below), ?_, .threw q, X'.here.running, hend, Or.inr ⟨q, rfl, E, ce, locs, hx _ hT (X'.ends _).1.alike, hcell9, hv, hcl, (X'.ends _).1, (X'.ends _).2.mono hc hs, hf⟩⟩
  rw [X.pushThrowing_eq]
  exact st
/-- a thing of a world lies in the heap -/
theorem vx_lt {D : va_G} {cl : List vw_C} {ws : va_W} {H1 : Heap} (h : va_P D cl ws H1) {k : Nat} {q : Nat × va_E} (hk : ws[k]? = some q) : q.1 < H1.size := (h k q hk).lt
end VXS
/-! ===== END ===== -/
/-! ===== BEGIN methods with a table of their own: called by a name, returning or throwing ===== -/
section VXH
/-! vx_backW, vx_callVX, vx_callSX, vx_callVW, vx_runVW, vx_runVX, vx_runSX, vx_ofWH follow the same proofs as their sisters above (Free/Laws.lean, Shelf42/LK1.lean); vx_outP calls Shelf42/NT130.lean (outThrough). -/
section
variable {l : Launch} {R : Room} {p : Program} {e : Env} {below : List Frame} {s : State} {sargs : Array Value} {y : MethodName} {len W9 : Nat}
theorem vx_backW {ws : List Cond} {rm : Room} {Pc : Array Value → State → Prop} {Qc : Array Value → State → Outcome → State → Prop} {XC : String → State → State → Prop} {mc ms : Nat} {free : Addr → Prop} {bytes : ByteArray} {maxL : Nat} {ret : Option FieldType} {hh : List (Nat × Nat × Nat × Nat)}
    (hM : vx_Met l y ws rm Pc Qc XC mc ms free) (hblind : FrameBlind Pc) (hrc : rm.cells = mc) (hrs : rm.slots = ms)
    (hframes : rm.frames + 1 ≤ R.frames) (hlocals : W9 + (maxL + 11) + rm.locals ≤ R.locals)
    (hws : ∀ w ∈ ws, ∀ a' U, s.WarmedH U.vm → w.before a' U = true) (hcode : Cond.codeWith y bytes maxL ret hh ∈ ws) (hinit : ∀ a' U, s.WarmedH U.vm → (Cond.initialized y.cls).before a' U = true) :
    vx_Back l R p e below s sargs y len W9 (PreOf R mc ms Pc) (PostOf Qc mc ms free) (vx_Post XC mc ms free) := by
  intro m meth c A g ig mk a X hg hsize hdg hW hn hp
  have h1 : (headSpec ws rm).pre.before a A.U = true := atoms_intro fun w hw => hws w hw _ _ X.warmed
  have h2 : (Cond.codeWith y bytes maxL ret hh).before a A.U = true := hws _ hcode _ _ X.warmed
  have h3 : (Cond.initialized y.cls).before a A.U = true := hinit _ _ X.warmed
  have h4 : A.cells + (headSpec ws rm).room.cells ≤ R.cells := by rw [show (headSpec ws rm).room.cells = mc from hrc]; exact hp.1
  have h5 : A.slots + (headSpec ws rm).room.slots ≤ R.slots := by rw [show (headSpec ws rm).room.slots = ms from hrs]; exact hp.2.1
  have hPc : Pc a (A.U.calling g mk a) := hblind _ _ _ _ hp.2.2
  obtain ⟨U, Ls, c0, s0⟩ := A
  dsimp only [Pt.U, Pt.locs, Pt.cells, Pt.slots] at h1 h2 h3 h4 h5 X hn hPc ⊢
  obtain ⟨m9, methY, cY, hn9, hmY, hcY, -, hlY, -⟩ := Cond.codeWith_spec h2
  cases Option.some.inj (hn9.symm.trans hn)
  obtain ⟨kY, hkY, -⟩ := className_of_methodNamed hn
  have hinitY : kY.init = .initialized := Cond.initialized_spec (findClass_of_methodNamed hn) hkY h3
  have h : At U g.method c below := by rw [hg]; exact X.here
  have hlocals9 : W9 + (maxL + 11) + (headSpec ws rm).room.locals ≤ R.locals := hlocals
  have happ : (headSpec ws rm).appliesLoose y e.platform (U.calling g mk a) = true :=
    Spec.appliesLoose_calling (g := g) h hdg hn hkY hinitY
      (X.room_calling (g := g) (R' := (headSpec ws rm).room) hsize hmY hcY hframes (by rw [hlY]; omega) h4 h5) h1
  obtain ⟨mid, hmid⟩ := h.above
  have hfr : (U.setTop g).frames = (.java g :: mid) ++ below := by rw [State.frames_setTop' g h.top, hmid]; rfl
  obtain ⟨o, s₂, hsteps, -, hend, hq⟩ := Steps.callFree hM p X.admits X.cas X.clock (acts := []) hfr happ hPc trivial
  have hq' : vx_Q Qc XC mc ms free a (U.calling g mk a) o s₂ := hq
  rw [State.frames_setTop' g h.top] at hend
  obtain ⟨g₀, hg0⟩ := Option.isSome_iff_exists.mp h.top
  obtain ⟨r, hr⟩ := State.topJava?_eq_some.mp hg0
  have hr' : (({ U with heap := s₂.heap, slotsUsed := s₂.slotsUsed } : State).setVm s₂.vm).frames = .java g₀ :: r := hr
  rcases hq' with ⟨hqc, L, hfe, hL⟩ | ⟨q, rfl, E, ce, L, hx, hce, hcv, hcl, hW₂, hsm, hL⟩
  · obtain ⟨⟨v, rfl⟩, hW₂, e2, q2, q3, q4, q5, q6⟩ := id hfe
    have e3 : s₂ = ({ (U.calling g mk a).setFrames s₂.frames with heap := s₂.heap, slotsUsed := s₂.slotsUsed } : State).setVm s₂.vm := by
      have : s₂ = ({ s₂ with vm := (U.calling g mk a).vm } : State).setVm s₂.vm := rfl
      rw [e2] at this
      exact this
    obtain ⟨c₂, i₂, len₂, hc₂, hd₂, hf₂⟩ := hend
    have hW' : U.WarmedH s₂.vm := hW₂
    have hcc : c₂ = c := by
      have h1 : s₂.code? g.method = U.code? g.method := by
        rw [State.code?_eq, State.code?_eq, hW'.alike.method?]
      exact Option.some.inj (hc₂.symm.trans (h1.trans h.code))
    subst hcc
    have hlen : len₂ = len := by rw [hdg] at hd₂; cases hd₂; rfl
    subst hlen
    have hs₂ : s₂ = (({ U with heap := s₂.heap, slotsUsed := s₂.slotsUsed } : State).setVm s₂.vm).setTop { g with pc := g.pc + len₂, stack := v.toList ++ g.stack } := by
      refine e3.trans ?_
      rw [hf₂, State.calling_eq h.top, State.setFrames_setFrames, State.setTop_of_frames _ hr', hr]
      rfl
    have hsame : U.sameButNew ({ U with heap := s₂.heap, slotsUsed := s₂.slotsUsed } : State) L mc ms := by
      refine ⟨?_, q2, q3, q4, q5, q6⟩
      obtain ⟨t, ht, -⟩ := State.frames_cons hr
      show ({ U with heap := s₂.heap, slotsUsed := s₂.slotsUsed } : State) = { U.setFrames U.frames with heap := s₂.heap, slotsUsed := s₂.slotsUsed }
      rw [State.setFrames_self ht]
    subst hg
    refine Or.inl ⟨v, ⟨(({ U with heap := s₂.heap, slotsUsed := s₂.slotsUsed } : State).setVm s₂.vm), Ls ++ L, c0 + mc, s0 + ms⟩,
      ⟨X.admits, X.cas, X.clock, X.frames, X.room, X.hears, X.method, X.code, (X.here.setHeapUsed s₂.heap s₂.slotsUsed).setVm hW'.alike, X.tail, State.WarmedH.trans X.warmed hW', X.limits, X.bytes, X.same.trans (hsame.setVm s.vm)⟩,
      ⟨g, mk, s₂, L, rfl, rfl, hqc, rfl, hL, rfl, rfl⟩, ?_⟩
    show Steps p.tables e below _ ((({ U with heap := s₂.heap, slotsUsed := s₂.slotsUsed } : State).setVm s₂.vm).setTop { g with pc := g.pc + len₂, stack := v.toList ++ g.stack })
    rw [← hs₂]
    exact hsteps
  · obtain ⟨e2, q2, q3, q4, q5, q6⟩ := id hsm
    have e3 : s₂ = ({ (U.calling g mk a).setFrames s₂.frames with heap := s₂.heap, slotsUsed := s₂.slotsUsed } : State).setVm s₂.vm := by
      have : s₂ = ({ s₂ with vm := (U.calling g mk a).vm } : State).setVm s₂.vm := rfl
      rw [e2] at this
      exact this
    have hf₂ : s₂.frames = .throwing q :: .java g :: U.frames.tail := hend
    have hW' : U.WarmedH s₂.vm := hW₂
    have hs₂ : s₂ = ((({ U with heap := s₂.heap, slotsUsed := s₂.slotsUsed } : State).setVm s₂.vm).setTop g).pushFrame (.throwing q) := by
      refine e3.trans ?_
      rw [hf₂, State.calling_eq h.top, State.setFrames_setFrames, State.pushFrame, State.frames_setTop _ hr', State.setTop_of_frames _ hr', State.setFrames_setFrames, hr]
      rfl
    have hsame : U.sameButNew ({ U with heap := s₂.heap, slotsUsed := s₂.slotsUsed } : State) L mc ms := by
      refine ⟨?_, q2, q3, q4, q5, q6⟩
      obtain ⟨t, ht, -⟩ := State.frames_cons hr
      show ({ U with heap := s₂.heap, slotsUsed := s₂.slotsUsed } : State) = { U.setFrames U.frames with heap := s₂.heap, slotsUsed := s₂.slotsUsed }
      rw [State.setFrames_self ht]
    subst hg
    refine Or.inr ⟨q, ⟨(({ U with heap := s₂.heap, slotsUsed := s₂.slotsUsed } : State).setVm s₂.vm), Ls ++ L, c0 + mc, s0 + ms⟩,
      ⟨X.admits, X.cas, X.clock, X.frames, X.room, X.hears, X.method, X.code, (X.here.setHeapUsed s₂.heap s₂.slotsUsed).setVm hW'.alike, X.tail, State.WarmedH.trans X.warmed hW', X.limits, X.bytes, X.same.trans (hsame.setVm s.vm)⟩,
      ⟨g, mk, s₂, L, E, ce, rfl, rfl, hx, hce, hcv, hcl, rfl, hL, rfl, rfl⟩, ?_⟩
    show Steps p.tables e below _ (((({ U with heap := s₂.heap, slotsUsed := s₂.slotsUsed } : State).setVm s₂.vm).setTop g).pushFrame (.throwing q))
    rw [← hs₂]
    exact hsteps
end
variable {p : Program} {l : Launch} {e : Env} {R : Room} {s : State} {m : MethodId} {args : Array Value} {below : List Frame} {meth : Method} {c : Code} {T : State} {H : Heap} {locs : List Loc} {cells slots : Nat}
theorem vx_callVX (X : Stand p l e R s m args below meth c T locs cells slots) (hexec : p.tables.exec = Jvm.exec) {own C : String} {index : Nat} {y : MethodName} {bytes : ByteArray} {maxL : Nat} {ret : Option FieldType} {hh : List (Nat × Nat × Nat × Nat)}
    (hown : s.vm.findClass own = some m.cls) (hlink : (Cond.methodLink own index y).before args s = true) (hinst : (Cond.instanceMethod y).before args s = true) (hsel : (Cond.selects C y y).before args s = true)
    (hcode : (Cond.codeWith y bytes maxL ret hh).before args s = true) (hy : y.cls ≠ "java/lang/invoke/MethodHandle" ∧ y.cls ≠ "java/lang/invoke/VarHandle")
    {W9 : Nat} {Pre : Pt → Array Value → Prop} {Post : Pt → Array Value → Option Value → Pt → Prop} {PostX : Pt → Array Value → Addr → Pt → Prop} (hK : vx_Back l R p e below s args y 3 W9 Pre Post PostX)
    {b : Addr} {cellB : Cell} (hcell : T.heap[b]? = some cellB) (hobj : cellB.vm.isStatics = false) (hcls : s.vm.findClass C = some cellB.cls)
    {g : JFrame} (hg : g.method = m) (hsize : g.locals.size = c.maxLocals) {argsL rest : List Value} (hlen : ∀ sig, parseMethodDescriptor y.desc = some sig → argsL.length = sig.parameters.length)
    (hstack : g.stack = argsL.reverse ++ .ref b :: rest) (hW : 2 * g.monitorRoom + (rest.map fun v => v.category).sum ≤ W9) (hdg : decode c.code g.pc = .ok (.invokevirtual index, 3))
    (hpre : ∀ vm₁, s.WarmedH vm₁ → Pre ⟨T.setVm vm₁, locs, cells, slots⟩ (Value.ref b :: argsL).toArray) :
    (∃ (v : Option Value) (vm₁ : Vm) (B : Pt), s.WarmedH vm₁ ∧ Stand p l e R s m args below meth c B.U B.locs B.cells B.slots ∧ Post ⟨T.setVm vm₁, locs, cells, slots⟩ (Value.ref b :: argsL).toArray v B ∧
      ∀ target, Steps p.tables e below (B.U.setTop { g with pc := g.pc + 3, stack := v.toList ++ rest }) target → Steps p.tables e below (T.setTop g) target) ∨
    (∃ (q : Addr) (vm₁ : Vm) (B : Pt), s.WarmedH vm₁ ∧ Stand p l e R s m args below meth c B.U B.locs B.cells B.slots ∧ PostX ⟨T.setVm vm₁, locs, cells, slots⟩ (Value.ref b :: argsL).toArray q B ∧
      Steps p.tables e below (T.setTop g) ((B.U.setTop { g with stack := rest }).pushFrame (.throwing q))) := by
  obtain ⟨mk, methM, hnamed, hmethM, hstM, habM⟩ := Cond.instanceMethod_spec hinst
  obtain ⟨m8, methM', cM, hn8, hmethM', -, -, -, -, -, -, hsigM⟩ := Cond.codeWith_spec hcode
  cases Option.some.inj (hn8.symm.trans hnamed)
  cases hmethM.symm.trans hmethM'
  obtain ⟨c2, r2, m2, q1, q2, q3, q4, kP, hkP, hkPi⟩ := Cond.selects_spec hsel
  cases hcls.symm.trans q1
  cases (State.methodFound?_of_named hnamed hy).symm.trans q2
  cases hnamed.symm.trans q3
  have hselP : selectMethod e.platform s.vm cellB.cls mk = .method mk := by rw [Launch.admits_selectMethod X.admits]; exact q4
  obtain ⟨vm₁, X₁, hstep₁⟩ := X.invokevirtual hexec hown hlink hnamed hmethM hstM hkP hkPi hy (a := b) (cell := cellB) hcell
    (fun z h => by rw [h] at hobj; cases hobj) hselP hmethM habM hkP hkPi (g := g) hg (argsL := argsL) (rest := rest) (hlen _ hsigM) hstack hdg
  rcases hK m meth c ⟨T.setVm vm₁, locs, cells, slots⟩ { g with stack := rest } (.invokevirtual index) mk (Value.ref b :: argsL).toArray X₁ hg hsize hdg hW (X₁.named hnamed) (hpre vm₁ X₁.warmed) with ⟨v, B, X', hpost, hsteps⟩ | ⟨q, B, X', hpost, hsteps⟩
  · exact Or.inl ⟨v, vm₁, B, X₁.warmed, X', hpost, fun target h => hstep₁ _ fun acts => by rw [doInvoke_state]; exact hsteps.trans h⟩
  · exact Or.inr ⟨q, vm₁, B, X₁.warmed, X', hpost, hstep₁ _ fun acts => by rw [doInvoke_state]; exact hsteps⟩
theorem vx_callSX (X : Stand p l e R s m args below meth c T locs cells slots) (hexec : p.tables.exec = Jvm.exec) {own : String} {index : Nat} {y : MethodName} {bytes : ByteArray} {maxL : Nat} {ret : Option FieldType} {hh : List (Nat × Nat × Nat × Nat)}
    (hown : s.vm.findClass own = some m.cls) (hlink : (Cond.methodLink own index y).before args s = true) (hstat : (Cond.static y).before args s = true) (hinit : (Cond.initialized y.cls).before args s = true)
    (hcode : (Cond.codeWith y bytes maxL ret hh).before args s = true) (hy : y.cls ≠ "java/lang/invoke/MethodHandle" ∧ y.cls ≠ "java/lang/invoke/VarHandle")
    {W9 : Nat} {Pre : Pt → Array Value → Prop} {Post : Pt → Array Value → Option Value → Pt → Prop} {PostX : Pt → Array Value → Addr → Pt → Prop} (hK : vx_Back l R p e below s args y 3 W9 Pre Post PostX)
    {g : JFrame} (hg : g.method = m) (hsize : g.locals.size = c.maxLocals) {argsL rest : List Value} (hlen : ∀ sig, parseMethodDescriptor y.desc = some sig → argsL.length = sig.parameters.length)
    (hstack : g.stack = argsL.reverse ++ rest) (hW : 2 * g.monitorRoom + (rest.map fun v => v.category).sum ≤ W9) (hdg : decode c.code g.pc = .ok (.invokestatic index, 3))
    (hpre : ∀ vm₁, s.WarmedH vm₁ → Pre ⟨T.setVm vm₁, locs, cells, slots⟩ argsL.toArray) :
    (∃ (v : Option Value) (vm₁ : Vm) (B : Pt), s.WarmedH vm₁ ∧ Stand p l e R s m args below meth c B.U B.locs B.cells B.slots ∧ Post ⟨T.setVm vm₁, locs, cells, slots⟩ argsL.toArray v B ∧
      ∀ target, Steps p.tables e below (B.U.setTop { g with pc := g.pc + 3, stack := v.toList ++ rest }) target → Steps p.tables e below (T.setTop g) target) ∨
    (∃ (q : Addr) (vm₁ : Vm) (B : Pt), s.WarmedH vm₁ ∧ Stand p l e R s m args below meth c B.U B.locs B.cells B.slots ∧ PostX ⟨T.setVm vm₁, locs, cells, slots⟩ argsL.toArray q B ∧
      Steps p.tables e below (T.setTop g) ((B.U.setTop { g with stack := rest }).pushFrame (.throwing q))) := by
  obtain ⟨mk, methM, cM, hnamed, hmethM, -, -, -, -, -, -, hsigM⟩ := Cond.codeWith_spec hcode
  have hstatic : methM.isStatic = true := Cond.static_spec hnamed hmethM hstat
  obtain ⟨kP, hkP, -⟩ := className_of_methodNamed hnamed
  have hinitP : kP.init = .initialized := Cond.initialized_spec (findClass_of_methodNamed hnamed) hkP hinit
  obtain ⟨vm₁, X₁, hstep₁⟩ := X.invokestatic hexec hown hlink hnamed hmethM hstatic hkP hinitP hy (g := g) hg (argsL := argsL) (rest := rest) (hlen _ hsigM) hstack hdg
  rcases hK m meth c ⟨T.setVm vm₁, locs, cells, slots⟩ { g with stack := rest } (.invokestatic index) mk argsL.toArray X₁ hg hsize hdg hW (X₁.named hnamed) (hpre vm₁ X₁.warmed) with ⟨v, B, X', hpost, hsteps⟩ | ⟨q, B, X', hpost, hsteps⟩
  · exact Or.inl ⟨v, vm₁, B, X₁.warmed, X', hpost, fun target h => hstep₁ _ fun acts => by rw [doInvoke_state]; exact hsteps.trans h⟩
  · exact Or.inr ⟨q, vm₁, B, X₁.warmed, X', hpost, hstep₁ _ fun acts => by rw [doInvoke_state]; exact hsteps⟩
theorem vx_callVW (X : Stand p l e R s m args below meth c T locs cells slots) (hexec : p.tables.exec = Jvm.exec) {own C : String} {index : Nat} {y : MethodName} {bytes : ByteArray} {maxL : Nat} {ret : Option FieldType} {hh : List (Nat × Nat × Nat × Nat)}
    (hown : s.vm.findClass own = some m.cls) (hlink : (Cond.methodLink own index y).before args s = true) (hinst : (Cond.instanceMethod y).before args s = true) (hsel : (Cond.selects C y y).before args s = true)
    (hcode : (Cond.codeWith y bytes maxL ret hh).before args s = true) (hy : y.cls ≠ "java/lang/invoke/MethodHandle" ∧ y.cls ≠ "java/lang/invoke/VarHandle")
    {W9 : Nat} {Pre : Pt → Array Value → Prop} {Post : Pt → Array Value → Option Value → Pt → Prop} (hK : Back l R p e below s args y 3 W9 Pre Post)
    {b : Addr} {cellB : Cell} (hcell : T.heap[b]? = some cellB) (hobj : cellB.vm.isStatics = false) (hcls : s.vm.findClass C = some cellB.cls)
    {g : JFrame} (hg : g.method = m) (hsize : g.locals.size = c.maxLocals) {argsL rest : List Value} (hlen : ∀ sig, parseMethodDescriptor y.desc = some sig → argsL.length = sig.parameters.length)
    (hstack : g.stack = argsL.reverse ++ .ref b :: rest) (hW : 2 * g.monitorRoom + (rest.map fun v => v.category).sum ≤ W9) (hdg : decode c.code g.pc = .ok (.invokevirtual index, 3))
    (hpre : ∀ vm₁, s.WarmedH vm₁ → Pre ⟨T.setVm vm₁, locs, cells, slots⟩ (Value.ref b :: argsL).toArray) :
    ∃ (v : Option Value) (vm₁ : Vm) (B : Pt), s.WarmedH vm₁ ∧ Stand p l e R s m args below meth c B.U B.locs B.cells B.slots ∧ Post ⟨T.setVm vm₁, locs, cells, slots⟩ (Value.ref b :: argsL).toArray v B ∧
      ∀ target, Steps p.tables e below (B.U.setTop { g with pc := g.pc + 3, stack := v.toList ++ rest }) target → Steps p.tables e below (T.setTop g) target := by
  obtain ⟨mk, methM, hnamed, hmethM, hstM, habM⟩ := Cond.instanceMethod_spec hinst
  obtain ⟨m8, methM', cM, hn8, hmethM', -, -, -, -, -, -, hsigM⟩ := Cond.codeWith_spec hcode
  cases Option.some.inj (hn8.symm.trans hnamed)
  cases hmethM.symm.trans hmethM'
  obtain ⟨c2, r2, m2, q1, q2, q3, q4, kP, hkP, hkPi⟩ := Cond.selects_spec hsel
  cases hcls.symm.trans q1
  cases (State.methodFound?_of_named hnamed hy).symm.trans q2
  cases hnamed.symm.trans q3
  have hselP : selectMethod e.platform s.vm cellB.cls mk = .method mk := by rw [Launch.admits_selectMethod X.admits]; exact q4
  obtain ⟨vm₁, X₁, hstep₁⟩ := X.invokevirtual hexec hown hlink hnamed hmethM hstM hkP hkPi hy (a := b) (cell := cellB) hcell
    (fun z h => by rw [h] at hobj; cases hobj) hselP hmethM habM hkP hkPi (g := g) hg (argsL := argsL) (rest := rest) (hlen _ hsigM) hstack hdg
  obtain ⟨v, B, X', hpost, hsteps⟩ := hK m meth c ⟨T.setVm vm₁, locs, cells, slots⟩ { g with stack := rest } (.invokevirtual index) mk (Value.ref b :: argsL).toArray X₁ hg hsize hdg hW (X₁.named hnamed) (hpre vm₁ X₁.warmed)
  exact ⟨v, vm₁, B, X₁.warmed, X', hpost, fun target h => hstep₁ _ fun acts => by rw [doInvoke_state]; exact hsteps.trans h⟩
abbrev vx_CVW (R : Room) (s : State) (args : Array Value) (own C : String) (index : Nat) (y : MethodName) (bytes : ByteArray) (maxL : Nat) (ret : Option FieldType) (hh : List (Nat × Nat × Nat × Nat)) (ws : List Cond) (rm : Room) (mc ms n : Nat) : Prop :=
  (rm.cells = mc ∧ rm.slots = ms ∧ rm.frames + 1 ≤ R.frames ∧ 8 + (maxL + 11) + rm.locals ≤ R.locals ∧ (∀ w ∈ ws, ∀ (a' : Array Value) (U : State), s.WarmedH U.vm → w.before a' U = true) ∧ Cond.codeWith y bytes maxL ret hh ∈ ws) ∧
  (Cond.codeWith y bytes maxL ret hh).before args s = true ∧ (Cond.initialized y.cls).before args s = true ∧ (y.cls ≠ "java/lang/invoke/MethodHandle" ∧ y.cls ≠ "java/lang/invoke/VarHandle") ∧
  (∀ sig, parseMethodDescriptor y.desc = some sig → n = sig.parameters.length) ∧ (Cond.methodLink own index y).before args s = true ∧ (Cond.instanceMethod y).before args s = true ∧ (Cond.selects C y y).before args s = true
theorem vx_cwVW {own C : String} {index maxL mc ms : Nat} {y : MethodName} {bytes : ByteArray} {ret : Option FieldType} {hh : List (Nat × Nat × Nat × Nat)} {Ts ws ws' : List Cond} {rm : Room} (n : Nat) (ht : ∀ w ∈ Ts, w.before args s = true) (hT : GoodIn Ts (wsV own index C y ws)) (hw : ws = Cond.codeWith y bytes maxL ret hh :: ws') (hrc : rm.cells = mc) (hrs : rm.slots = ms)
    (hd : y.cls = C ∧ y.cls ≠ "java/lang/invoke/MethodHandle" ∧ y.cls ≠ "java/lang/invoke/VarHandle" ∧ (parseMethodDescriptor y.desc).map (fun d => d.parameters.length) = some n) (hR : rm.frames + 1 ≤ R.frames ∧ 8 + (maxL + 11) + rm.locals ≤ R.locals) :
    vx_CVW R s args own C index y bytes maxL ret hh ws rm mc ms n := by
  obtain ⟨hC, hd⟩ := hd
  subst hC
  have ok : ∀ w ∈ wsV own index y.cls y ws, w.before args s = true := fun w h => ht w (hT w h).1
  have hG : GoodIn Ts ws := fun w h => hT w (by unfold wsV; exact List.mem_append_right _ h)
  have hc : Cond.codeWith y bytes maxL ret hh ∈ ws := by rw [hw]; exact List.mem_cons_self
  refine ⟨⟨hrc, hrs, hR.1, hR.2, pay_in ht hG, hc⟩, ht _ (hG _ hc).1, ok _ (by simp [wsV]), ⟨hd.1, hd.2.1⟩, fun sig h => ?_, ok _ (by simp [wsV]), ok _ (by simp [wsV]), ok _ (by simp [wsV])⟩
  have h2 := hd.2.2
  rw [h] at h2
  exact (Option.some.inj h2).symm
theorem vx_runVW {y : MethodName} {bytes cc : ByteArray} {maxL nL mc ms n index : Nat} {ret : Option FieldType} {hh : List (Nat × Nat × Nat × Nat)} {ws : List Cond} {rm : Room} {Pc : Array Value → State → Prop} {Qc : Array Value → State → Outcome → State → Prop} {free : Addr → Prop} {Ts : List Cond} {own C : String} {b : Addr} {As rest : List Value} {g : JFrame}
    (S : CallFix p m c cc nL s args Ts own) (hM : Met l y ws rm Pc Qc mc ms free) (cw : vx_CVW R s args own C index y bytes maxL ret hh ws rm mc ms n) (hp : PreV s H C b Pc As)
    (hg : g.method = m) (hn : As.length = n) (hsize : g.locals.size = nL) (hstack : g.stack = As.reverse ++ .ref b :: rest) (hW : 2 * g.monitorRoom + (rest.map fun v => v.category).sum ≤ 8) (hdg : decode cc g.pc = .ok (.invokevirtual index, 3)) (hf : cells + mc ≤ R.cells ∧ slots + ms ≤ R.slots) :
    va_Run p l e R s m args below meth c H locs cells slots mc ms g rest (Qc (Value.ref b :: As).toArray) free := by
  obtain ⟨⟨hrc, hrs, hfr, hlo, hws, hcw⟩, hcode, hini, hy, hlen, hl, hin, hse⟩ := cw
  have hK : Back l R p e below s args y 3 8 (PreOf R mc ms Pc) (PostOf Qc mc ms free) := va_backW (hh := hh) (bytes := bytes) (maxL := maxL) (ret := ret) hM hp.1 hrc hrs hfr hlo hws hcw (fun a' U hW => word_at hW (Or.inl (by first | rfl | simp [Cond.onTables, Cond.keeps, Cond.steady])) hini)
  obtain ⟨hx, hb, hml, ho, -⟩ := S
  obtain ⟨-, ⟨cellB, hcB, hoB, hclB⟩, hPc⟩ := hp
  intro T hT X
  obtain ⟨v, vm₁, ⟨U', l2, c2, s2⟩, hW₁, X', ⟨g', mk, t, L, e1, e2, hq, h1, hL, h2, h3⟩, st⟩ := vx_callVW X hx (C := C) (hh := hh) (bytes := bytes) (maxL := maxL) (ret := ret) ho hl hin hse hcode hy hK (by rw [hT]; exact hcB) hoB hclB hg (hsize.trans hml.symm) (argsL := As) (rest := rest) (fun sig h => hn.trans (hlen sig h)) hstack hW (by rw [hb]; exact hdg)
    (fun vm₁ hW₁ => ⟨hf.1, hf.2, hPc (T.setVm vm₁) hT hW₁⟩)
  dsimp only [Pt.U, Pt.locs, Pt.cells, Pt.slots] at X' e1 e2 h1 h2 h3 st
  subst h1; subst h2; subst h3
  exact ⟨v, (T.setVm vm₁).calling g' mk (Value.ref b :: As).toArray, t, U', L, hT, X', hL, e1, e2, hq, st⟩
section
variable {y : MethodName} {bytes cc : ByteArray} {maxL nL mc ms n index : Nat} {ret : Option FieldType} {ws : List Cond} {rm : Room} {Pc : Array Value → State → Prop} {Qc : Array Value → State → Outcome → State → Prop} {XC : String → State → State → Prop} {free : Addr → Prop} {Ts : List Cond} {own C : String} {b : Addr} {As rest : List Value} {g : JFrame}
theorem vx_runVX {hh : List (Nat × Nat × Nat × Nat)} (S : CallFix p m c cc nL s args Ts own) (hM : vx_Met l y ws rm Pc Qc XC mc ms free) (cw : vx_CVW R s args own C index y bytes maxL ret hh ws rm mc ms n) (hp : PreV s H C b Pc As)
    (hg : g.method = m) (hn : As.length = n) (hsize : g.locals.size = nL) (hstack : g.stack = As.reverse ++ .ref b :: rest) (hW : 2 * g.monitorRoom + (rest.map fun v => v.category).sum ≤ 8) (hdg : decode cc g.pc = .ok (.invokevirtual index, 3)) (hf : cells + mc ≤ R.cells ∧ slots + ms ≤ R.slots) :
    vx_Run p l e R s m args below meth c H locs cells slots mc ms g rest (Qc (Value.ref b :: As).toArray) XC free := by
  obtain ⟨⟨hrc, hrs, hfr, hlo, hws, hcw⟩, hcode, hini, hy, hlen, hl, hin, hse⟩ := cw
  have hK : vx_Back l R p e below s args y 3 8 (PreOf R mc ms Pc) (PostOf Qc mc ms free) (vx_Post XC mc ms free) := vx_backW (hh := hh) (bytes := bytes) (maxL := maxL) (ret := ret) hM hp.1 hrc hrs hfr hlo hws hcw (fun a' U hW => word_at hW (Or.inl (by first | rfl | simp [Cond.onTables, Cond.keeps, Cond.steady])) hini)
  obtain ⟨hx, hb, hml, ho, -⟩ := S
  obtain ⟨-, ⟨cellB, hcB, hoB, hclB⟩, hPc⟩ := hp
  intro T hT X
  rcases vx_callVX X hx (C := C) (hh := hh) (bytes := bytes) (maxL := maxL) (ret := ret) ho hl hin hse hcode hy hK (by rw [hT]; exact hcB) hoB hclB hg (hsize.trans hml.symm) (argsL := As) (rest := rest) (fun sig h => hn.trans (hlen sig h)) hstack hW (by rw [hb]; exact hdg)
    (fun vm₁ hW₁ => ⟨hf.1, hf.2, hPc (T.setVm vm₁) hT hW₁⟩) with ⟨v, vm₁, ⟨U', l2, c2, s2⟩, hW₁, X', ⟨g', mk, t, L, e1, e2, hq, h1, hL, h2, h3⟩, st⟩ | ⟨q, vm₁, ⟨U', l2, c2, s2⟩, hW₁, X', ⟨g', mk, t, L, E, ce, e1, e2, hq, hce, hcv, hcl, h1, hL, h2, h3⟩, st⟩
  · dsimp only [Pt.U, Pt.locs, Pt.cells, Pt.slots] at X' e1 e2 h1 h2 h3 st
    subst h1; subst h2; subst h3
    exact Or.inl ⟨v, (T.setVm vm₁).calling g' mk (Value.ref b :: As).toArray, t, U', L, hT, X', hL, e1, e2, hq, st⟩
  · dsimp only [Pt.U, Pt.locs, Pt.cells, Pt.slots] at X' e1 e2 h1 h2 h3 st hcl
    subst h1; subst h2; subst h3
    exact Or.inr ⟨q, (T.setVm vm₁).calling g' mk (Value.ref b :: As).toArray, t, U', L, E, ce, hT, X', hL, e1, e2, hq, hce, hcv, vx_cls hW₁ hcl, st⟩
theorem vx_runSX {hh : List (Nat × Nat × Nat × Nat)} (S : CallFix p m c cc nL s args Ts own) (hM : vx_Met l y ws rm Pc Qc XC mc ms free) (cw : vx_CSW R s args own index y bytes maxL ret hh ws rm mc ms n) (hp : PreS s H Pc As)
    (hg : g.method = m) (hn : As.length = n) (hsize : g.locals.size = nL) (hstack : g.stack = As.reverse ++ rest) (hW : 2 * g.monitorRoom + (rest.map fun v => v.category).sum ≤ 8) (hdg : decode cc g.pc = .ok (.invokestatic index, 3)) (hf : cells + mc ≤ R.cells ∧ slots + ms ≤ R.slots) :
    vx_Run p l e R s m args below meth c H locs cells slots mc ms g rest (Qc As.toArray) XC free := by
  obtain ⟨⟨hrc, hrs, hfr, hlo, hws, hcw⟩, hcode, hini, hy, hlen, hl, hstt⟩ := cw
  have hK : vx_Back l R p e below s args y 3 8 (PreOf R mc ms Pc) (PostOf Qc mc ms free) (vx_Post XC mc ms free) := vx_backW (hh := hh) (bytes := bytes) (maxL := maxL) (ret := ret) hM hp.1 hrc hrs hfr hlo hws hcw (fun a' U hW => word_at hW (Or.inl (by first | rfl | simp [Cond.onTables, Cond.keeps, Cond.steady])) hini)
  obtain ⟨hx, hb, hml, ho, -⟩ := S
  intro T hT X
  rcases vx_callSX X hx (hh := hh) (bytes := bytes) (maxL := maxL) (ret := ret) ho hl hstt hini hcode hy hK hg (hsize.trans hml.symm) (argsL := As) (rest := rest) (fun sig h => hn.trans (hlen sig h)) hstack hW (by rw [hb]; exact hdg)
    (fun vm₁ hW₁ => ⟨hf.1, hf.2, hp.2 (T.setVm vm₁) hT hW₁⟩) with ⟨v, vm₁, ⟨U', l2, c2, s2⟩, hW₁, X', ⟨g', mk, t, L, e1, e2, hq, h1, hL, h2, h3⟩, st⟩ | ⟨q, vm₁, ⟨U', l2, c2, s2⟩, hW₁, X', ⟨g', mk, t, L, E, ce, e1, e2, hq, hce, hcv, hcl, h1, hL, h2, h3⟩, st⟩
  · dsimp only [Pt.U, Pt.locs, Pt.cells, Pt.slots] at X' e1 e2 h1 h2 h3 st
    subst h1; subst h2; subst h3
    exact Or.inl ⟨v, (T.setVm vm₁).calling g' mk As.toArray, t, U', L, hT, X', hL, e1, e2, hq, st⟩
  · dsimp only [Pt.U, Pt.locs, Pt.cells, Pt.slots] at X' e1 e2 h1 h2 h3 st hcl
    subst h1; subst h2; subst h3
    exact Or.inr ⟨q, (T.setVm vm₁).calling g' mk As.toArray, t, U', L, E, ce, hT, X', hL, e1, e2, hq, hce, hcv, vx_cls hW₁ hcl, st⟩
end
end VXH
theorem vx_ofWH {l : Launch} {y : MethodName} {ws ws' : List Cond} {rm : Room} {Pc : Array Value → State → Prop} {Qc : Array Value → State → Outcome → State → Prop} {XC : String → State → State → Prop} {mc ms : Nat} {free : Addr → Prop} {cc : ByteArray} {maxL : Nat} {ret : Option FieldType} {hh : List (Nat × Nat × Nat × Nat)}
    (hy : plainName y.cls = true) (hw : ws = Cond.codeWith y cc maxL ret hh :: ws')
    (body : ∀ p e s m args below meth c s₁, BodyLoose p l y (headSpec ws rm) cc maxL ret e s m args below meth c s₁ → c.maxLocals = maxL → Pc args s →
      W p l e (headSpec ws rm).room s m args below meth c s.heap [] 0 0 (vx_MQ below Qc XC args s mc ms free) (entryFrame m args maxL)) : vx_Met l y ws rm Pc Qc XC mc ms free := by
  refine MetFree.of_bodyS (code := cc) (maxLocals := maxL) (ret := ret) hy ?_ ?_
  · intro args s m h hn
    obtain ⟨m9, meth, c, hn9, h1, h2, h3, h4, -, h5, h6, -⟩ := Cond.codeWith_spec (atoms_spec (ws := ws) h _ (by rw [hw]; exact List.mem_cons_self))
    cases hn.symm.trans hn9
    exact ⟨meth, c, h1, h2, h3, h4, h5, h6⟩
  · intro p e s m args below meth c s₁ B hml hP _
    have hh0 : s₁.heap = s.heap := by rw [B.state]; rfl
    obtain ⟨t, a1, o, b1, b2, b3⟩ := body p e s m args below meth c s₁ B hml hP s₁ hh0 (Stand.of_body B)
    exact ⟨t, o, a1, b1, b2, b3⟩
/-! ===== END ===== -/
end
section
/-! WORDS OF THE TABLES, by their places. TB: the good ones, the words of every method here beside its own code. -/
def TB : List Cond := lw_tbl.filter goodWord
theorem tb_at {w : Cond} (i : Nat) (h : tables_1[i]? = some w) (g : goodWord w = true) : w ∈ TB := List.mem_filter.mpr ⟨List.mem_append_right _ (List.mem_of_getElem? h), g⟩
theorem tb_a1 {w : Cond} (i : Nat) (h : tables_1_1[i]? = some w) (g : goodWord w = true) : w ∈ TB := List.mem_filter.mpr ⟨List.mem_append_right _ (List.mem_append_left _ (List.mem_of_getElem? h)), g⟩
theorem tb_a2 {w : Cond} (i : Nat) (h : tables_1_2[i]? = some w) (g : goodWord w = true) : w ∈ TB := List.mem_filter.mpr ⟨List.mem_append_right _ (List.mem_append_right _ (List.mem_append_left _ (List.mem_of_getElem? h))), g⟩
theorem tb_a3 {w : Cond} (i : Nat) (h : tables_1_3[i]? = some w) (g : goodWord w = true) : w ∈ TB := List.mem_filter.mpr ⟨List.mem_append_right _ (List.mem_append_right _ (List.mem_append_right _ (List.mem_append_left _ (List.mem_of_getElem? h)))), g⟩
theorem tb_a4 {w : Cond} (i : Nat) (h : tables_1_4[i]? = some w) (g : goodWord w = true) : w ∈ TB := List.mem_filter.mpr ⟨List.mem_append_right _ (List.mem_append_right _ (List.mem_append_right _ (List.mem_append_right _ (List.mem_of_getElem? h)))), g⟩
theorem tb_pr {w : Cond} (i : Nat) (h : (k2_sels lw_privs)[i]? = some w) (g : goodWord w = true) : w ∈ TB := List.mem_filter.mpr ⟨List.mem_append_left _ (List.mem_of_getElem? h), g⟩
theorem tw_0 : (Jvm.Cond.initialized "PageMakerLaw") ∈ TB := tb_a1 0 rfl rfl
theorem tw_1 : (Jvm.Cond.initialized "PageMaker") ∈ TB := tb_a1 1 rfl rfl
theorem tw_2 : (Jvm.Cond.initialized "java/util/AbstractCollection") ∈ TB := tb_a1 2 rfl rfl
theorem tw_3 : (Jvm.Cond.initialized "java/util/AbstractList") ∈ TB := tb_a1 3 rfl rfl
theorem tw_4 : (Jvm.Cond.initialized "java/util/ArrayList") ∈ TB := tb_a1 4 rfl rfl
theorem tw_5 : (Jvm.Cond.initialized "PageMaker$Frame") ∈ TB := tb_a1 5 rfl rfl
theorem tw_6 : (Jvm.Cond.initialized "PageMaker$OpenPage") ∈ TB := tb_a1 6 rfl rfl
theorem tw_7 : (Jvm.Cond.initialized "PageMaker$Totals") ∈ TB := tb_a1 7 rfl rfl
theorem tw_8 : (Jvm.Cond.initialized "PageMakerModel") ∈ TB := tb_a1 8 rfl rfl
theorem tw_9 : (Jvm.Cond.initialized "java/lang/Throwable") ∈ TB := tb_a1 9 rfl rfl
theorem tw_10 : (Jvm.Cond.initialized "java/lang/Exception") ∈ TB := tb_a1 10 rfl rfl
theorem tw_11 : (Jvm.Cond.initialized "java/lang/RuntimeException") ∈ TB := tb_a1 11 rfl rfl
theorem tw_12 : (Jvm.Cond.initialized "java/lang/IllegalArgumentException") ∈ TB := tb_a1 12 rfl rfl
theorem tw_13 : (Jvm.Cond.initialized "java/lang/UnsupportedOperationException") ∈ TB := tb_a1 13 rfl rfl
theorem tw_14 : (Jvm.Cond.initialized "PageMaker$Item") ∈ TB := tb_a1 14 rfl rfl
theorem tw_15 : (Jvm.Cond.initialized "PageMaker$Box") ∈ TB := tb_a1 15 rfl rfl
theorem tw_16 : (Jvm.Cond.initialized "jdk/internal/util/ArraysSupport") ∈ TB := tb_a1 16 rfl rfl
theorem tw_17 : (Jvm.Cond.initialized "java/lang/Math") ∈ TB := tb_a1 17 rfl rfl
theorem tw_18 : (Jvm.Cond.initialized "java/util/Arrays") ∈ TB := tb_a1 18 rfl rfl
theorem tw_19 : (Jvm.Cond.initialized "java/lang/System") ∈ TB := tb_a1 19 rfl rfl
theorem tw_20 : (Jvm.Cond.initialized "java/util/Objects") ∈ TB := tb_a1 20 rfl rfl
theorem tw_21 : (Jvm.Cond.initialized "jdk/internal/util/Preconditions") ∈ TB := tb_a1 21 rfl rfl
theorem tw_22 : (Jvm.Cond.initialized "PageMaker$EndedPage") ∈ TB := tb_a1 22 rfl rfl
theorem tw_23 : (Jvm.Cond.initialized "PageMaker$Glue") ∈ TB := tb_a1 23 rfl rfl
theorem tw_24 : (Jvm.Cond.initialized "PageMaker$Kern") ∈ TB := tb_a1 24 rfl rfl
theorem tw_25 : (Jvm.Cond.initialized "PageMaker$Penalty") ∈ TB := tb_a1 25 rfl rfl
theorem tw_26 : (Jvm.Cond.initialized "java/lang/IndexOutOfBoundsException") ∈ TB := tb_a1 26 rfl rfl
theorem tw_27 : (Jvm.Cond.classLink "PageMakerLaw" (8 : Nat) "PageMaker") ∈ TB := tb_a1 27 rfl rfl
theorem tw_28 : (Jvm.Cond.instantiable "PageMaker" (4 : Nat)) ∈ TB := tb_a1 28 rfl rfl
theorem tw_29 : (Jvm.Cond.methodLink "PageMakerLaw" (48 : Nat) ({ cls := "PageMaker", name := "<init>", desc := "()V" } : Jvm.MethodName)) ∈ TB := tb_a1 29 rfl rfl
theorem tw_30 : (Jvm.Cond.instanceMethod ({ cls := "PageMaker", name := "<init>", desc := "()V" } : Jvm.MethodName)) ∈ TB := tb_a1 30 rfl rfl
theorem tw_31 : (Jvm.Cond.code ({ cls := "PageMaker", name := "<init>", desc := "()V" } : Jvm.MethodName) prog_1_method_1_code (1 : Nat) (Option.none : Option Jvm.ClassFile.FieldType)) ∈ TB := tb_a1 31 rfl rfl
theorem tw_32 : (Jvm.Cond.methodLink "PageMaker" (3 : Nat) ({ cls := "java/lang/Object", name := "<init>", desc := "()V" } : Jvm.MethodName)) ∈ TB := tb_a1 32 rfl rfl
theorem tw_33 : (Jvm.Cond.instanceMethod ({ cls := "java/lang/Object", name := "<init>", desc := "()V" } : Jvm.MethodName)) ∈ TB := tb_a1 33 rfl rfl
theorem tw_34 : (Jvm.Cond.code ({ cls := "java/lang/Object", name := "<init>", desc := "()V" } : Jvm.MethodName) object_method_1_code (1 : Nat) (Option.none : Option Jvm.ClassFile.FieldType)) ∈ TB := tb_a1 34 rfl rfl
theorem tw_35 : (Jvm.Cond.classLink "PageMaker" (9 : Nat) "java/util/ArrayList") ∈ TB := tb_a1 35 rfl rfl
theorem tw_36 : (Jvm.Cond.instantiable "java/util/ArrayList" (3 : Nat)) ∈ TB := tb_a1 36 rfl rfl
theorem tw_37 : (Jvm.Cond.methodLink "PageMaker" (11 : Nat) ({ cls := "java/util/ArrayList", name := "<init>", desc := "()V" } : Jvm.MethodName)) ∈ TB := tb_a1 37 rfl rfl
theorem tw_38 : (Jvm.Cond.instanceMethod ({ cls := "java/util/ArrayList", name := "<init>", desc := "()V" } : Jvm.MethodName)) ∈ TB := tb_a1 38 rfl rfl
theorem tw_39 : (Jvm.Cond.code ({ cls := "java/util/ArrayList", name := "<init>", desc := "()V" } : Jvm.MethodName) prog_27_method_2_code (1 : Nat) (Option.none : Option Jvm.ClassFile.FieldType)) ∈ TB := tb_a1 39 rfl rfl
theorem tw_40 : (Jvm.Cond.methodLink "java/util/ArrayList" (1 : Nat) ({ cls := "java/util/AbstractList", name := "<init>", desc := "()V" } : Jvm.MethodName)) ∈ TB := tb_a1 40 rfl rfl
theorem tw_41 : (Jvm.Cond.instanceMethod ({ cls := "java/util/AbstractList", name := "<init>", desc := "()V" } : Jvm.MethodName)) ∈ TB := tb_a1 41 rfl rfl
theorem tw_42 : (Jvm.Cond.code ({ cls := "java/util/AbstractList", name := "<init>", desc := "()V" } : Jvm.MethodName) prog_26_method_1_code (1 : Nat) (Option.none : Option Jvm.ClassFile.FieldType)) ∈ TB := tb_a1 42 rfl rfl
theorem tw_43 : (Jvm.Cond.methodLink "java/util/AbstractList" (1 : Nat) ({ cls := "java/util/AbstractCollection", name := "<init>", desc := "()V" } : Jvm.MethodName)) ∈ TB := tb_a1 43 rfl rfl
theorem tw_44 : (Jvm.Cond.instanceMethod ({ cls := "java/util/AbstractCollection", name := "<init>", desc := "()V" } : Jvm.MethodName)) ∈ TB := tb_a1 44 rfl rfl
theorem tw_45 : (Jvm.Cond.code ({ cls := "java/util/AbstractCollection", name := "<init>", desc := "()V" } : Jvm.MethodName) prog_25_method_1_code (1 : Nat) (Option.none : Option Jvm.ClassFile.FieldType)) ∈ TB := tb_a1 45 rfl rfl
theorem tw_46 : (Jvm.Cond.methodLink "java/util/AbstractCollection" (1 : Nat) ({ cls := "java/lang/Object", name := "<init>", desc := "()V" } : Jvm.MethodName)) ∈ TB := tb_a1 46 rfl rfl
theorem tw_47 : (Jvm.Cond.fieldLink "java/util/ArrayList" (39 : Nat) "java/util/ArrayList" "DEFAULTCAPACITY_EMPTY_ELEMENTDATA" "[Ljava/lang/Object;") ∈ TB := tb_a1 47 rfl rfl
theorem tw_49 : (Jvm.Cond.fieldLink "java/util/ArrayList" (9 : Nat) "java/util/ArrayList" "elementData" "[Ljava/lang/Object;") ∈ TB := tb_a1 49 rfl rfl
theorem tw_50 : (Jvm.Cond.fieldLink "java/util/ArrayList" (48 : Nat) "java/util/ArrayList" "size" "I") ∈ TB := tb_a1 50 rfl rfl
theorem tw_51 : (Jvm.Cond.fieldLink "java/util/AbstractList" (7 : Nat) "java/util/AbstractList" "modCount" "I") ∈ TB := tb_a1 51 rfl rfl
theorem tw_52 : (Jvm.Cond.fieldLink "java/util/ArrayList" (63 : Nat) "java/util/ArrayList" "modCount" "I") ∈ TB := tb_a1 52 rfl rfl
theorem tw_53 : (Jvm.Cond.sameField "java/util/ArrayList" "java/util/AbstractList" "modCount" "I") ∈ TB := tb_a1 53 rfl rfl
theorem tw_54 : (Jvm.Cond.lays "java/util/ArrayList" "java/util/ArrayList" "elementData" "[Ljava/lang/Object;") ∈ TB := tb_a1 54 rfl rfl
theorem tw_55 : (Jvm.Cond.soleField "java/util/ArrayList" "elementData") ∈ TB := tb_a1 55 rfl rfl
theorem tw_56 : (Jvm.Cond.lays "java/util/ArrayList" "java/util/ArrayList" "size" "I") ∈ TB := tb_a1 56 rfl rfl
theorem tw_57 : (Jvm.Cond.soleField "java/util/ArrayList" "size") ∈ TB := tb_a1 57 rfl rfl
theorem tw_58 : (Jvm.Cond.lays "java/util/ArrayList" "java/util/AbstractList" "modCount" "I") ∈ TB := tb_a1 58 rfl rfl
theorem tw_59 : (Jvm.Cond.soleField "java/util/AbstractList" "modCount") ∈ TB := tb_a1 59 rfl rfl
theorem tw_60 : (Jvm.Cond.superclass "java/util/ArrayList" "java/util/AbstractList") ∈ TB := tb_a1 60 rfl rfl
theorem tw_61 : (Jvm.Cond.classLink "PageMaker" (19 : Nat) "PageMaker$Frame") ∈ TB := tb_a1 61 rfl rfl
theorem tw_62 : (Jvm.Cond.instantiable "PageMaker$Frame" (3 : Nat)) ∈ TB := tb_a1 62 rfl rfl
theorem tw_63 : (Jvm.Cond.constant "PageMaker" (21 : Nat) (42152922 : Int32)) ∈ TB := tb_a1 63 rfl rfl
theorem tw_64 : (Jvm.Cond.constant "PageMaker" (22 : Nat) (655360 : Int32)) ∈ TB := tb_a1 64 rfl rfl
theorem tw_65 : (Jvm.Cond.constant "PageMaker" (23 : Nat) (262144 : Int32)) ∈ TB := tb_a1 65 rfl rfl
theorem tw_66 : (Jvm.Cond.methodLink "PageMaker" (24 : Nat) ({ cls := "PageMaker$Frame", name := "<init>", desc := "(III)V" } : Jvm.MethodName)) ∈ TB := tb_a1 66 rfl rfl
theorem tw_67 : (Jvm.Cond.instanceMethod ({ cls := "PageMaker$Frame", name := "<init>", desc := "(III)V" } : Jvm.MethodName)) ∈ TB := tb_a1 67 rfl rfl
theorem tw_68 : (Jvm.Cond.code ({ cls := "PageMaker$Frame", name := "<init>", desc := "(III)V" } : Jvm.MethodName) prog_4_method_1_code (4 : Nat) (Option.none : Option Jvm.ClassFile.FieldType)) ∈ TB := tb_a1 68 rfl rfl
theorem tw_69 : (Jvm.Cond.methodLink "PageMaker$Frame" (1 : Nat) ({ cls := "java/lang/Object", name := "<init>", desc := "()V" } : Jvm.MethodName)) ∈ TB := tb_a1 69 rfl rfl
theorem tw_70 : (Jvm.Cond.fieldLink "PageMaker$Frame" (7 : Nat) "PageMaker$Frame" "height" "I") ∈ TB := tb_a1 70 rfl rfl
theorem tw_71 : (Jvm.Cond.fieldLink "PageMaker$EndedPage" (41 : Nat) "PageMaker$Frame" "height" "I") ∈ TB := tb_a1 71 rfl rfl
theorem tw_72 : (Jvm.Cond.fieldLink "PageMaker$OpenPage" (60 : Nat) "PageMaker$Frame" "height" "I") ∈ TB := tb_a1 72 rfl rfl
theorem tw_73 : (Jvm.Cond.fieldLink "PageMaker$Frame" (13 : Nat) "PageMaker$Frame" "top" "I") ∈ TB := tb_a1 73 rfl rfl
theorem tw_74 : (Jvm.Cond.fieldLink "PageMaker$Totals" (25 : Nat) "PageMaker$Frame" "top" "I") ∈ TB := tb_a1 74 rfl rfl
theorem tw_75 : (Jvm.Cond.fieldLink "PageMaker$Frame" (16 : Nat) "PageMaker$Frame" "greatest" "I") ∈ TB := tb_a1 75 rfl rfl
theorem tw_76 : (Jvm.Cond.fieldLink "PageMaker$Box" (24 : Nat) "PageMaker$Frame" "greatest" "I") ∈ TB := tb_a1 76 rfl rfl
theorem tw_77 : (Jvm.Cond.laysFinal "PageMaker$Frame" "PageMaker$Frame" "height" "I") ∈ TB := tb_a1 77 rfl rfl
theorem tw_78 : (Jvm.Cond.soleField "PageMaker$Frame" "height") ∈ TB := tb_a1 78 rfl rfl
theorem tw_79 : (Jvm.Cond.laysFinal "PageMaker$Frame" "PageMaker$Frame" "top" "I") ∈ TB := tb_a1 79 rfl rfl
theorem tw_80 : (Jvm.Cond.soleField "PageMaker$Frame" "top") ∈ TB := tb_a1 80 rfl rfl
theorem tw_81 : (Jvm.Cond.laysFinal "PageMaker$Frame" "PageMaker$Frame" "greatest" "I") ∈ TB := tb_a1 81 rfl rfl
theorem tw_82 : (Jvm.Cond.soleField "PageMaker$Frame" "greatest") ∈ TB := tb_a1 82 rfl rfl
theorem tw_83 : (Jvm.Cond.superclass "PageMaker$Frame" "java/lang/Object") ∈ TB := tb_a1 83 rfl rfl
theorem tw_84 : (Jvm.Cond.classLink "PageMaker" (31 : Nat) "PageMaker$OpenPage") ∈ TB := tb_a1 84 rfl rfl
theorem tw_85 : (Jvm.Cond.instantiable "PageMaker$OpenPage" (8 : Nat)) ∈ TB := tb_a1 85 rfl rfl
theorem tw_86 : (Jvm.Cond.methodLink "PageMaker" (33 : Nat) ({ cls := "PageMaker$OpenPage", name := "<init>", desc := "(LPageMaker$Frame;)V" } : Jvm.MethodName)) ∈ TB := tb_a1 86 rfl rfl
theorem tw_87 : (Jvm.Cond.instanceMethod ({ cls := "PageMaker$OpenPage", name := "<init>", desc := "(LPageMaker$Frame;)V" } : Jvm.MethodName)) ∈ TB := tb_a1 87 rfl rfl
theorem tw_88 : (Jvm.Cond.code ({ cls := "PageMaker$OpenPage", name := "<init>", desc := "(LPageMaker$Frame;)V" } : Jvm.MethodName) prog_8_method_1_code (2 : Nat) (Option.none : Option Jvm.ClassFile.FieldType)) ∈ TB := tb_a1 88 rfl rfl
theorem tw_89 : (Jvm.Cond.methodLink "PageMaker$OpenPage" (3 : Nat) ({ cls := "java/lang/Object", name := "<init>", desc := "()V" } : Jvm.MethodName)) ∈ TB := tb_a1 89 rfl rfl
theorem tw_90 : (Jvm.Cond.classLink "PageMaker$OpenPage" (9 : Nat) "PageMaker$Totals") ∈ TB := tb_a1 90 rfl rfl
theorem tw_91 : (Jvm.Cond.instantiable "PageMaker$Totals" (4 : Nat)) ∈ TB := tb_a1 91 rfl rfl
theorem tw_93 : (Jvm.Cond.instanceMethod ({ cls := "PageMaker$Totals", name := "<init>", desc := "()V" } : Jvm.MethodName)) ∈ TB := tb_a1 93 rfl rfl
theorem tw_94 : (Jvm.Cond.code ({ cls := "PageMaker$Totals", name := "<init>", desc := "()V" } : Jvm.MethodName) prog_10_method_1_code (1 : Nat) (Option.none : Option Jvm.ClassFile.FieldType)) ∈ TB := tb_a1 94 rfl rfl
theorem tw_95 : (Jvm.Cond.methodLink "PageMaker$Totals" (3 : Nat) ({ cls := "java/lang/Object", name := "<init>", desc := "()V" } : Jvm.MethodName)) ∈ TB := tb_a1 95 rfl rfl
theorem tw_96 : (Jvm.Cond.fieldLink "PageMaker$Totals" (9 : Nat) "PageMaker$Totals" "stretch" "[J") ∈ TB := tb_a1 96 rfl rfl
theorem tw_97 : (Jvm.Cond.fieldLink "PageMaker$EndedPage" (62 : Nat) "PageMaker$Totals" "stretch" "[J") ∈ TB := tb_a1 97 rfl rfl
theorem tw_98 : (Jvm.Cond.fieldLink "PageMaker$Glue" (33 : Nat) "PageMaker$Totals" "stretch" "[J") ∈ TB := tb_a1 98 rfl rfl
theorem tw_99 : (Jvm.Cond.fieldLink "PageMaker" (173 : Nat) "PageMaker$Totals" "stretch" "[J") ∈ TB := tb_a1 99 rfl rfl
theorem tw_100 : (Jvm.Cond.fieldLink "PageMaker$Totals" (15 : Nat) "PageMaker$Totals" "length" "J") ∈ TB := tb_a1 100 rfl rfl
theorem tw_101 : (Jvm.Cond.fieldLink "PageMaker$EndedPage" (46 : Nat) "PageMaker$Totals" "length" "J") ∈ TB := tb_a1 101 rfl rfl
theorem tw_102 : (Jvm.Cond.fieldLink "PageMaker$Box" (16 : Nat) "PageMaker$Totals" "length" "J") ∈ TB := tb_a1 102 rfl rfl
theorem tw_103 : (Jvm.Cond.fieldLink "PageMaker$OpenPage" (51 : Nat) "PageMaker$Totals" "length" "J") ∈ TB := tb_a1 103 rfl rfl
theorem tw_104 : (Jvm.Cond.fieldLink "PageMaker" (149 : Nat) "PageMaker$Totals" "length" "J") ∈ TB := tb_a1 104 rfl rfl
theorem tw_105 : (Jvm.Cond.fieldLink "PageMaker$Totals" (19 : Nat) "PageMaker$Totals" "depth" "J") ∈ TB := tb_a1 105 rfl rfl
theorem tw_106 : (Jvm.Cond.fieldLink "PageMaker$Box" (22 : Nat) "PageMaker$Totals" "depth" "J") ∈ TB := tb_a1 106 rfl rfl
theorem tw_107 : (Jvm.Cond.fieldLink "PageMaker" (154 : Nat) "PageMaker$Totals" "depth" "J") ∈ TB := tb_a1 107 rfl rfl
theorem tw_108 : (Jvm.Cond.fieldLink "PageMaker$Totals" (22 : Nat) "PageMaker$Totals" "shrink" "J") ∈ TB := tb_a1 108 rfl rfl
theorem tw_109 : (Jvm.Cond.fieldLink "PageMaker$EndedPage" (69 : Nat) "PageMaker$Totals" "shrink" "J") ∈ TB := tb_a1 109 rfl rfl
theorem tw_110 : (Jvm.Cond.fieldLink "PageMaker$Glue" (30 : Nat) "PageMaker$Totals" "shrink" "J") ∈ TB := tb_a1 110 rfl rfl
theorem tw_111 : (Jvm.Cond.fieldLink "PageMaker" (181 : Nat) "PageMaker$Totals" "shrink" "J") ∈ TB := tb_a1 111 rfl rfl
theorem tw_112 : (Jvm.Cond.laysFinal "PageMaker$Totals" "PageMaker$Totals" "stretch" "[J") ∈ TB := tb_a1 112 rfl rfl
theorem tw_113 : (Jvm.Cond.soleField "PageMaker$Totals" "stretch") ∈ TB := tb_a1 113 rfl rfl
theorem tw_114 : (Jvm.Cond.lays "PageMaker$Totals" "PageMaker$Totals" "length" "J") ∈ TB := tb_a1 114 rfl rfl
theorem tw_115 : (Jvm.Cond.soleField "PageMaker$Totals" "length") ∈ TB := tb_a1 115 rfl rfl
theorem tw_116 : (Jvm.Cond.lays "PageMaker$Totals" "PageMaker$Totals" "depth" "J") ∈ TB := tb_a1 116 rfl rfl
theorem tw_117 : (Jvm.Cond.soleField "PageMaker$Totals" "depth") ∈ TB := tb_a1 117 rfl rfl
theorem tw_118 : (Jvm.Cond.lays "PageMaker$Totals" "PageMaker$Totals" "shrink" "J") ∈ TB := tb_a1 118 rfl rfl
theorem tw_119 : (Jvm.Cond.soleField "PageMaker$Totals" "shrink") ∈ TB := tb_a1 119 rfl rfl
theorem tw_120 : (Jvm.Cond.superclass "PageMaker$Totals" "java/lang/Object") ∈ TB := tb_a1 120 rfl rfl
theorem tw_121 : (Jvm.Cond.arrayClass Jvm.ClassFile.FieldType.long) ∈ TB := tb_a1 121 rfl rfl
theorem tw_122 : (Jvm.Cond.constant "PageMaker$OpenPage" (29 : Nat) (1073741823 : Int32)) ∈ TB := tb_a1 122 rfl rfl
theorem tw_123 : (Jvm.Cond.fieldLink "PageMaker$OpenPage" (12 : Nat) "PageMaker$OpenPage" "totals" "LPageMaker$Totals;") ∈ TB := tb_a1 123 rfl rfl
theorem tw_124 : (Jvm.Cond.fieldLink "PageMaker" (169 : Nat) "PageMaker$OpenPage" "totals" "LPageMaker$Totals;") ∈ TB := tb_a1 124 rfl rfl
theorem tw_125 : (Jvm.Cond.fieldLink "PageMaker$EndedPage" (7 : Nat) "PageMaker$OpenPage" "frame" "LPageMaker$Frame;") ∈ TB := tb_a1 125 rfl rfl
theorem tw_126 : (Jvm.Cond.fieldLink "PageMaker$OpenPage" (39 : Nat) "PageMaker$OpenPage" "frame" "LPageMaker$Frame;") ∈ TB := tb_a1 126 rfl rfl
theorem tw_127 : (Jvm.Cond.fieldLink "PageMaker" (237 : Nat) "PageMaker$OpenPage" "frame" "LPageMaker$Frame;") ∈ TB := tb_a1 127 rfl rfl
theorem tw_128 : (Jvm.Cond.fieldLink "PageMaker$EndedPage" (16 : Nat) "PageMaker$OpenPage" "first" "I") ∈ TB := tb_a1 128 rfl rfl
theorem tw_129 : (Jvm.Cond.fieldLink "PageMaker$OpenPage" (18 : Nat) "PageMaker$OpenPage" "first" "I") ∈ TB := tb_a1 129 rfl rfl
theorem tw_130 : (Jvm.Cond.fieldLink "PageMaker" (168 : Nat) "PageMaker$OpenPage" "first" "I") ∈ TB := tb_a1 130 rfl rfl
theorem tw_131 : (Jvm.Cond.fieldLink "PageMaker$OpenPage" (22 : Nat) "PageMaker$OpenPage" "lengthBeforeLast" "J") ∈ TB := tb_a1 131 rfl rfl
theorem tw_132 : (Jvm.Cond.fieldLink "PageMaker" (227 : Nat) "PageMaker$OpenPage" "lengthBeforeLast" "J") ∈ TB := tb_a1 132 rfl rfl
theorem tw_133 : (Jvm.Cond.fieldLink "PageMaker$EndedPage" (21 : Nat) "PageMaker$OpenPage" "bestItem" "I") ∈ TB := tb_a1 133 rfl rfl
theorem tw_134 : (Jvm.Cond.fieldLink "PageMaker$OpenPage" (26 : Nat) "PageMaker$OpenPage" "bestItem" "I") ∈ TB := tb_a1 134 rfl rfl
theorem tw_135 : (Jvm.Cond.fieldLink "PageMaker" (177 : Nat) "PageMaker$OpenPage" "bestItem" "I") ∈ TB := tb_a1 135 rfl rfl
theorem tw_136 : (Jvm.Cond.fieldLink "PageMaker$EndedPage" (25 : Nat) "PageMaker$OpenPage" "bestCost" "I") ∈ TB := tb_a1 136 rfl rfl
theorem tw_137 : (Jvm.Cond.fieldLink "PageMaker$OpenPage" (30 : Nat) "PageMaker$OpenPage" "bestCost" "I") ∈ TB := tb_a1 137 rfl rfl
theorem tw_138 : (Jvm.Cond.fieldLink "PageMaker" (178 : Nat) "PageMaker$OpenPage" "bestCost" "I") ∈ TB := tb_a1 138 rfl rfl
theorem tw_139 : (Jvm.Cond.fieldLink "PageMaker$EndedPage" (31 : Nat) "PageMaker$OpenPage" "bestBadness" "I") ∈ TB := tb_a1 139 rfl rfl
theorem tw_140 : (Jvm.Cond.fieldLink "PageMaker$OpenPage" (33 : Nat) "PageMaker$OpenPage" "bestBadness" "I") ∈ TB := tb_a1 140 rfl rfl
theorem tw_141 : (Jvm.Cond.fieldLink "PageMaker$OpenPage" (36 : Nat) "PageMaker$OpenPage" "endingItem" "I") ∈ TB := tb_a1 141 rfl rfl
theorem tw_142 : (Jvm.Cond.fieldLink "PageMaker$EndedPage" (37 : Nat) "PageMaker$OpenPage" "endingItem" "I") ∈ TB := tb_a1 142 rfl rfl
theorem tw_143 : (Jvm.Cond.laysFinal "PageMaker$OpenPage" "PageMaker$OpenPage" "totals" "LPageMaker$Totals;") ∈ TB := tb_a1 143 rfl rfl
theorem tw_144 : (Jvm.Cond.soleField "PageMaker$OpenPage" "totals") ∈ TB := tb_a1 144 rfl rfl
theorem tw_145 : (Jvm.Cond.lays "PageMaker$OpenPage" "PageMaker$OpenPage" "frame" "LPageMaker$Frame;") ∈ TB := tb_a1 145 rfl rfl
theorem tw_146 : (Jvm.Cond.soleField "PageMaker$OpenPage" "frame") ∈ TB := tb_a1 146 rfl rfl
theorem tw_147 : (Jvm.Cond.lays "PageMaker$OpenPage" "PageMaker$OpenPage" "first" "I") ∈ TB := tb_a1 147 rfl rfl
theorem tw_148 : (Jvm.Cond.soleField "PageMaker$OpenPage" "first") ∈ TB := tb_a1 148 rfl rfl
theorem tw_149 : (Jvm.Cond.lays "PageMaker$OpenPage" "PageMaker$OpenPage" "lengthBeforeLast" "J") ∈ TB := tb_a1 149 rfl rfl
theorem tw_150 : (Jvm.Cond.soleField "PageMaker$OpenPage" "lengthBeforeLast") ∈ TB := tb_a1 150 rfl rfl
theorem tw_151 : (Jvm.Cond.lays "PageMaker$OpenPage" "PageMaker$OpenPage" "bestItem" "I") ∈ TB := tb_a1 151 rfl rfl
theorem tw_152 : (Jvm.Cond.soleField "PageMaker$OpenPage" "bestItem") ∈ TB := tb_a1 152 rfl rfl
theorem tw_153 : (Jvm.Cond.lays "PageMaker$OpenPage" "PageMaker$OpenPage" "bestCost" "I") ∈ TB := tb_a1 153 rfl rfl
theorem tw_154 : (Jvm.Cond.soleField "PageMaker$OpenPage" "bestCost") ∈ TB := tb_a1 154 rfl rfl
theorem tw_155 : (Jvm.Cond.lays "PageMaker$OpenPage" "PageMaker$OpenPage" "bestBadness" "I") ∈ TB := tb_a1 155 rfl rfl
theorem tw_156 : (Jvm.Cond.soleField "PageMaker$OpenPage" "bestBadness") ∈ TB := tb_a1 156 rfl rfl
theorem tw_157 : (Jvm.Cond.lays "PageMaker$OpenPage" "PageMaker$OpenPage" "endingItem" "I") ∈ TB := tb_a1 157 rfl rfl
theorem tw_158 : (Jvm.Cond.soleField "PageMaker$OpenPage" "endingItem") ∈ TB := tb_a1 158 rfl rfl
theorem tw_159 : (Jvm.Cond.superclass "PageMaker$OpenPage" "java/lang/Object") ∈ TB := tb_a1 159 rfl rfl
theorem tw_160 : (Jvm.Cond.fieldLink "PageMaker" (12 : Nat) "PageMaker" "allItems" "Ljava/util/ArrayList;") ∈ TB := tb_a1 160 rfl rfl
theorem tw_161 : (Jvm.Cond.fieldLink "PageMaker" (16 : Nat) "PageMaker" "endedPages" "Ljava/util/ArrayList;") ∈ TB := tb_a1 161 rfl rfl
theorem tw_162 : (Jvm.Cond.fieldLink "PageMaker" (27 : Nat) "PageMaker" "frameNow" "LPageMaker$Frame;") ∈ TB := tb_a1 162 rfl rfl
theorem tw_163 : (Jvm.Cond.fieldLink "PageMaker" (36 : Nat) "PageMaker" "openPage" "LPageMaker$OpenPage;") ∈ TB := tb_a1 163 rfl rfl
theorem tw_164 : (Jvm.Cond.laysFinal "PageMaker" "PageMaker" "allItems" "Ljava/util/ArrayList;") ∈ TB := tb_a1 164 rfl rfl
theorem tw_165 : (Jvm.Cond.soleField "PageMaker" "allItems") ∈ TB := tb_a1 165 rfl rfl
theorem tw_166 : (Jvm.Cond.laysFinal "PageMaker" "PageMaker" "endedPages" "Ljava/util/ArrayList;") ∈ TB := tb_a1 166 rfl rfl
theorem tw_167 : (Jvm.Cond.soleField "PageMaker" "endedPages") ∈ TB := tb_a1 167 rfl rfl
theorem tw_168 : (Jvm.Cond.lays "PageMaker" "PageMaker" "frameNow" "LPageMaker$Frame;") ∈ TB := tb_a1 168 rfl rfl
theorem tw_169 : (Jvm.Cond.soleField "PageMaker" "frameNow") ∈ TB := tb_a1 169 rfl rfl
theorem tw_170 : (Jvm.Cond.lays "PageMaker" "PageMaker" "openPage" "LPageMaker$OpenPage;") ∈ TB := tb_a1 170 rfl rfl
theorem tw_171 : (Jvm.Cond.soleField "PageMaker" "openPage") ∈ TB := tb_a1 171 rfl rfl
theorem tw_172 : (Jvm.Cond.superclass "PageMaker" "java/lang/Object") ∈ TB := tb_a1 172 rfl rfl
theorem tw_173 : (Jvm.Cond.methodLink "PageMakerLaw" (77 : Nat) ({ cls := "PageMaker", name := "items", desc := "()I" } : Jvm.MethodName)) ∈ TB := tb_a1 173 rfl rfl
theorem tw_174 : (Jvm.Cond.instanceMethod ({ cls := "PageMaker", name := "items", desc := "()I" } : Jvm.MethodName)) ∈ TB := tb_a1 174 rfl rfl
theorem tw_175 : (Jvm.Cond.selects "PageMaker" ({ cls := "PageMaker", name := "items", desc := "()I" } : Jvm.MethodName) ({ cls := "PageMaker", name := "items", desc := "()I" } : Jvm.MethodName)) ∈ TB := tb_a1 175 rfl rfl
theorem tw_176 : (Jvm.Cond.code ({ cls := "PageMaker", name := "items", desc := "()I" } : Jvm.MethodName) prog_1_method_7_code (1 : Nat) (Option.some Jvm.ClassFile.FieldType.int)) ∈ TB := tb_a1 176 rfl rfl
theorem tw_177 : (Jvm.Cond.methodLink "PageMaker" (91 : Nat) ({ cls := "java/util/ArrayList", name := "size", desc := "()I" } : Jvm.MethodName)) ∈ TB := tb_a1 177 rfl rfl
theorem tw_178 : (Jvm.Cond.instanceMethod ({ cls := "java/util/ArrayList", name := "size", desc := "()I" } : Jvm.MethodName)) ∈ TB := tb_a1 178 rfl rfl
theorem tw_179 : (Jvm.Cond.selects "java/util/ArrayList" ({ cls := "java/util/ArrayList", name := "size", desc := "()I" } : Jvm.MethodName) ({ cls := "java/util/ArrayList", name := "size", desc := "()I" } : Jvm.MethodName)) ∈ TB := tb_a1 179 rfl rfl
theorem tw_180 : (Jvm.Cond.code ({ cls := "java/util/ArrayList", name := "size", desc := "()I" } : Jvm.MethodName) prog_27_method_8_code (1 : Nat) (Option.some Jvm.ClassFile.FieldType.int)) ∈ TB := tb_a1 180 rfl rfl
theorem tw_181 : (Jvm.Cond.methodLink "PageMakerLaw" (81 : Nat) ({ cls := "PageMaker", name := "pages", desc := "()I" } : Jvm.MethodName)) ∈ TB := tb_a1 181 rfl rfl
theorem tw_182 : (Jvm.Cond.instanceMethod ({ cls := "PageMaker", name := "pages", desc := "()I" } : Jvm.MethodName)) ∈ TB := tb_a1 182 rfl rfl
theorem tw_183 : (Jvm.Cond.selects "PageMaker" ({ cls := "PageMaker", name := "pages", desc := "()I" } : Jvm.MethodName) ({ cls := "PageMaker", name := "pages", desc := "()I" } : Jvm.MethodName)) ∈ TB := tb_a1 183 rfl rfl
theorem tw_184 : (Jvm.Cond.code ({ cls := "PageMaker", name := "pages", desc := "()I" } : Jvm.MethodName) prog_1_method_8_code (1 : Nat) (Option.some Jvm.ClassFile.FieldType.int)) ∈ TB := tb_a1 184 rfl rfl
theorem tw_185 : (Jvm.Cond.methodLink "PageMakerLaw" (52 : Nat) ({ cls := "PageMakerLaw", name := "frame", desc := "(LPageMaker;III)I" } : Jvm.MethodName)) ∈ TB := tb_a1 185 rfl rfl
theorem tw_186 : (Jvm.Cond.static ({ cls := "PageMakerLaw", name := "frame", desc := "(LPageMaker;III)I" } : Jvm.MethodName)) ∈ TB := tb_a1 186 rfl rfl
theorem tw_187 : (Jvm.Cond.codeWith ({ cls := "PageMakerLaw", name := "frame", desc := "(LPageMaker;III)I" } : Jvm.MethodName) method_3_code (5 : Nat) (Option.some Jvm.ClassFile.FieldType.int) [((0 : Nat), (7 : Nat), (10 : Nat), (13 : Nat))]) ∈ TB := tb_a1 187 rfl rfl
theorem tw_188 : (Jvm.Cond.classLink "PageMakerLaw" (13 : Nat) "java/lang/IllegalArgumentException") ∈ TB := tb_a1 188 rfl rfl
theorem tw_189 : (Jvm.Cond.methodLink "PageMakerLaw" (7 : Nat) ({ cls := "PageMaker", name := "frame", desc := "(III)V" } : Jvm.MethodName)) ∈ TB := tb_a1 189 rfl rfl
theorem tw_190 : (Jvm.Cond.instanceMethod ({ cls := "PageMaker", name := "frame", desc := "(III)V" } : Jvm.MethodName)) ∈ TB := tb_a1 190 rfl rfl
theorem tw_191 : (Jvm.Cond.selects "PageMaker" ({ cls := "PageMaker", name := "frame", desc := "(III)V" } : Jvm.MethodName) ({ cls := "PageMaker", name := "frame", desc := "(III)V" } : Jvm.MethodName)) ∈ TB := tb_a1 191 rfl rfl
theorem tw_192 : (Jvm.Cond.code ({ cls := "PageMaker", name := "frame", desc := "(III)V" } : Jvm.MethodName) prog_1_method_2_code (4 : Nat) (Option.none : Option Jvm.ClassFile.FieldType)) ∈ TB := tb_a1 192 rfl rfl
theorem tw_193 : (Jvm.Cond.methodLink "PageMaker" (40 : Nat) ({ cls := "PageMaker", name := "isSizeFromZero", desc := "(I)Z" } : Jvm.MethodName)) ∈ TB := tb_a1 193 rfl rfl
theorem tw_194 : (Jvm.Cond.static ({ cls := "PageMaker", name := "isSizeFromZero", desc := "(I)Z" } : Jvm.MethodName)) ∈ TB := tb_a1 194 rfl rfl
theorem tw_195 : (Jvm.Cond.code ({ cls := "PageMaker", name := "isSizeFromZero", desc := "(I)Z" } : Jvm.MethodName) prog_1_method_14_code (1 : Nat) (Option.some Jvm.ClassFile.FieldType.boolean)) ∈ TB := tb_a1 195 rfl rfl
theorem tw_196 : (Jvm.Cond.constant "PageMaker" (187 : Nat) (1073741823 : Int32)) ∈ TB := tb_a1 196 rfl rfl
theorem tw_197 : (Jvm.Cond.methodLink "PageMaker" (44 : Nat) ({ cls := "PageMaker", name := "isSize", desc := "(I)Z" } : Jvm.MethodName)) ∈ TB := tb_a1 197 rfl rfl
theorem tw_198 : (Jvm.Cond.static ({ cls := "PageMaker", name := "isSize", desc := "(I)Z" } : Jvm.MethodName)) ∈ TB := tb_a1 198 rfl rfl
theorem tw_199 : (Jvm.Cond.code ({ cls := "PageMaker", name := "isSize", desc := "(I)Z" } : Jvm.MethodName) prog_1_method_13_code (1 : Nat) (Option.some Jvm.ClassFile.FieldType.boolean)) ∈ TB := tb_a1 199 rfl rfl
theorem tw_200 : (Jvm.Cond.constant "PageMaker" (186 : Nat) (-1073741823 : Int32)) ∈ TB := tb_a1 200 rfl rfl
theorem tw_201 : (Jvm.Cond.classLink "PageMaker" (47 : Nat) "java/lang/IllegalArgumentException") ∈ TB := tb_a1 201 rfl rfl
theorem tw_202 : (Jvm.Cond.instantiable "java/lang/IllegalArgumentException" (6 : Nat)) ∈ TB := tb_a1 202 rfl rfl
theorem tw_210 : (Jvm.Cond.selects "java/lang/IllegalArgumentException" ({ cls := "java/lang/Throwable", name := "fillInStackTrace", desc := "(I)Ljava/lang/Throwable;" } : Jvm.MethodName) ({ cls := "java/lang/Throwable", name := "fillInStackTrace", desc := "(I)Ljava/lang/Throwable;" } : Jvm.MethodName)) ∈ TB := tb_a1 210 rfl rfl
theorem tw_211 : (Jvm.Cond.selects "java/lang/IllegalArgumentException" ({ cls := "java/lang/Throwable", name := "fillInStackTrace", desc := "()Ljava/lang/Throwable;" } : Jvm.MethodName) ({ cls := "java/lang/Throwable", name := "fillInStackTrace", desc := "()Ljava/lang/Throwable;" } : Jvm.MethodName)) ∈ TB := tb_a1 211 rfl rfl
theorem tw_212 : (Jvm.Cond.lays "java/lang/IllegalArgumentException" "java/lang/Throwable" "cause" "Ljava/lang/Throwable;") ∈ TB := tb_a1 212 rfl rfl
theorem tw_213 : (Jvm.Cond.lays "java/lang/Throwable" "java/lang/Throwable" "cause" "Ljava/lang/Throwable;") ∈ TB := tb_a1 213 rfl rfl
theorem tw_214 : (Jvm.Cond.lays "java/lang/IllegalArgumentException" "java/lang/Throwable" "stackTrace" "[Ljava/lang/StackTraceElement;") ∈ TB := tb_a1 214 rfl rfl
theorem tw_215 : (Jvm.Cond.lays "java/lang/Throwable" "java/lang/Throwable" "stackTrace" "[Ljava/lang/StackTraceElement;") ∈ TB := tb_a1 215 rfl rfl
theorem tw_216 : (Jvm.Cond.lays "java/lang/IllegalArgumentException" "java/lang/Throwable" "suppressedExceptions" "Ljava/util/List;") ∈ TB := tb_a1 216 rfl rfl
theorem tw_217 : (Jvm.Cond.lays "java/lang/Throwable" "java/lang/Throwable" "suppressedExceptions" "Ljava/util/List;") ∈ TB := tb_a1 217 rfl rfl
theorem tw_218 : (Jvm.Cond.lays "java/lang/IllegalArgumentException" "java/lang/Throwable" "detailMessage" "Ljava/lang/String;") ∈ TB := tb_a1 218 rfl rfl
theorem tw_219 : (Jvm.Cond.lays "java/lang/Throwable" "java/lang/Throwable" "detailMessage" "Ljava/lang/String;") ∈ TB := tb_a1 219 rfl rfl
theorem tw_220 : (Jvm.Cond.lays "java/lang/IllegalArgumentException" "java/lang/Throwable" "backtrace" "Ljava/lang/Object;") ∈ TB := tb_a1 220 rfl rfl
theorem tw_221 : (Jvm.Cond.lays "java/lang/Throwable" "java/lang/Throwable" "backtrace" "Ljava/lang/Object;") ∈ TB := tb_a1 221 rfl rfl
theorem tw_222 : (Jvm.Cond.fieldLink "java/lang/Throwable" (198 : Nat) "java/lang/Throwable" "backtrace" "Ljava/lang/Object;") ∈ TB := tb_a1 222 rfl rfl
theorem tw_223 : (Jvm.Cond.superclass "java/lang/Throwable" "java/lang/Object") ∈ TB := tb_a1 223 rfl rfl
theorem tw_224 : (Jvm.Cond.instanceMethod ({ cls := "java/lang/Throwable", name := "<init>", desc := "()V" } : Jvm.MethodName)) ∈ TB := tb_a1 224 rfl rfl
theorem tw_225 : (Jvm.Cond.code ({ cls := "java/lang/Throwable", name := "<init>", desc := "()V" } : Jvm.MethodName) prog_23_method_1_code (1 : Nat) (Option.none : Option Jvm.ClassFile.FieldType)) ∈ TB := tb_a1 225 rfl rfl
theorem tw_226 : (Jvm.Cond.methodLink "java/lang/Throwable" (1 : Nat) ({ cls := "java/lang/Object", name := "<init>", desc := "()V" } : Jvm.MethodName)) ∈ TB := tb_a1 226 rfl rfl
theorem tw_227 : (Jvm.Cond.fieldLink "java/lang/Throwable" (13 : Nat) "java/lang/Throwable" "UNASSIGNED_STACK" "[Ljava/lang/StackTraceElement;") ∈ TB := tb_a1 227 rfl rfl
theorem tw_229 : (Jvm.Cond.fieldLink "java/lang/Throwable" (20 : Nat) "java/lang/Throwable" "SUPPRESSED_SENTINEL" "Ljava/util/List;") ∈ TB := tb_a1 229 rfl rfl
theorem tw_231 : (Jvm.Cond.methodLink "java/lang/Throwable" (27 : Nat) ({ cls := "java/lang/Throwable", name := "fillInStackTrace", desc := "()Ljava/lang/Throwable;" } : Jvm.MethodName)) ∈ TB := tb_a1 231 rfl rfl
theorem tw_232 : (Jvm.Cond.instanceMethod ({ cls := "java/lang/Throwable", name := "fillInStackTrace", desc := "()Ljava/lang/Throwable;" } : Jvm.MethodName)) ∈ TB := tb_a1 232 rfl rfl
theorem tw_233 : (Jvm.Cond.sameMethod "java/lang/Throwable" "java/lang/Throwable" "fillInStackTrace" "()Ljava/lang/Throwable;") ∈ TB := tb_a1 233 rfl rfl
theorem tw_234 : (Jvm.Cond.selects "java/lang/IndexOutOfBoundsException" ({ cls := "java/lang/Throwable", name := "fillInStackTrace", desc := "()Ljava/lang/Throwable;" } : Jvm.MethodName) ({ cls := "java/lang/Throwable", name := "fillInStackTrace", desc := "()Ljava/lang/Throwable;" } : Jvm.MethodName)) ∈ TB := tb_a1 234 rfl rfl
theorem tw_235 : (Jvm.Cond.selects "java/lang/UnsupportedOperationException" ({ cls := "java/lang/Throwable", name := "fillInStackTrace", desc := "()Ljava/lang/Throwable;" } : Jvm.MethodName) ({ cls := "java/lang/Throwable", name := "fillInStackTrace", desc := "()Ljava/lang/Throwable;" } : Jvm.MethodName)) ∈ TB := tb_a1 235 rfl rfl
theorem tw_236 : (Jvm.Cond.codeSync ({ cls := "java/lang/Throwable", name := "fillInStackTrace", desc := "()Ljava/lang/Throwable;" } : Jvm.MethodName) prog_23_method_18_code (1 : Nat) (Option.some (Jvm.ClassFile.FieldType.object "java/lang/Throwable"))) ∈ TB := tb_a1 236 rfl rfl
theorem tw_237 : (Jvm.Cond.methodLink "java/lang/Throwable" (202 : Nat) ({ cls := "java/lang/Throwable", name := "fillInStackTrace", desc := "(I)Ljava/lang/Throwable;" } : Jvm.MethodName)) ∈ TB := tb_a1 237 rfl rfl
theorem tw_239 : (Jvm.Cond.instanceMethod ({ cls := "java/lang/Throwable", name := "fillInStackTrace", desc := "(I)Ljava/lang/Throwable;" } : Jvm.MethodName)) ∈ TB := tb_a1 239 rfl rfl
theorem tw_240 : (Jvm.Cond.instantiable "java/lang/Throwable" (6 : Nat)) ∈ TB := tb_a2 0 rfl rfl
theorem tw_241 : (Jvm.Cond.native ({ cls := "java/lang/Throwable", name := "fillInStackTrace", desc := "(I)Ljava/lang/Throwable;" } : Jvm.MethodName)) ∈ TB := tb_a2 1 rfl rfl
theorem tw_243 : (Jvm.Cond.methodLink "PageMaker" (51 : Nat) ({ cls := "java/lang/IllegalArgumentException", name := "<init>", desc := "(Ljava/lang/String;)V" } : Jvm.MethodName)) ∈ TB := tb_a2 3 rfl rfl
theorem tw_244 : (Jvm.Cond.instanceMethod ({ cls := "java/lang/IllegalArgumentException", name := "<init>", desc := "(Ljava/lang/String;)V" } : Jvm.MethodName)) ∈ TB := tb_a2 4 rfl rfl
theorem tw_245 : (Jvm.Cond.code ({ cls := "java/lang/IllegalArgumentException", name := "<init>", desc := "(Ljava/lang/String;)V" } : Jvm.MethodName) prog_16_method_2_code (2 : Nat) (Option.none : Option Jvm.ClassFile.FieldType)) ∈ TB := tb_a2 5 rfl rfl
theorem tw_246 : (Jvm.Cond.methodLink "java/lang/IllegalArgumentException" (7 : Nat) ({ cls := "java/lang/RuntimeException", name := "<init>", desc := "(Ljava/lang/String;)V" } : Jvm.MethodName)) ∈ TB := tb_a2 6 rfl rfl
theorem tw_247 : (Jvm.Cond.instanceMethod ({ cls := "java/lang/RuntimeException", name := "<init>", desc := "(Ljava/lang/String;)V" } : Jvm.MethodName)) ∈ TB := tb_a2 7 rfl rfl
theorem tw_248 : (Jvm.Cond.code ({ cls := "java/lang/RuntimeException", name := "<init>", desc := "(Ljava/lang/String;)V" } : Jvm.MethodName) prog_20_method_2_code (2 : Nat) (Option.none : Option Jvm.ClassFile.FieldType)) ∈ TB := tb_a2 8 rfl rfl
theorem tw_249 : (Jvm.Cond.methodLink "java/lang/RuntimeException" (7 : Nat) ({ cls := "java/lang/Exception", name := "<init>", desc := "(Ljava/lang/String;)V" } : Jvm.MethodName)) ∈ TB := tb_a2 9 rfl rfl
theorem tw_250 : (Jvm.Cond.instanceMethod ({ cls := "java/lang/Exception", name := "<init>", desc := "(Ljava/lang/String;)V" } : Jvm.MethodName)) ∈ TB := tb_a2 10 rfl rfl
theorem tw_251 : (Jvm.Cond.code ({ cls := "java/lang/Exception", name := "<init>", desc := "(Ljava/lang/String;)V" } : Jvm.MethodName) prog_15_method_2_code (2 : Nat) (Option.none : Option Jvm.ClassFile.FieldType)) ∈ TB := tb_a2 11 rfl rfl
theorem tw_252 : (Jvm.Cond.methodLink "java/lang/Exception" (7 : Nat) ({ cls := "java/lang/Throwable", name := "<init>", desc := "(Ljava/lang/String;)V" } : Jvm.MethodName)) ∈ TB := tb_a2 12 rfl rfl
theorem tw_253 : (Jvm.Cond.instanceMethod ({ cls := "java/lang/Throwable", name := "<init>", desc := "(Ljava/lang/String;)V" } : Jvm.MethodName)) ∈ TB := tb_a2 13 rfl rfl
theorem tw_254 : (Jvm.Cond.code ({ cls := "java/lang/Throwable", name := "<init>", desc := "(Ljava/lang/String;)V" } : Jvm.MethodName) prog_23_method_2_code (2 : Nat) (Option.none : Option Jvm.ClassFile.FieldType)) ∈ TB := tb_a2 14 rfl rfl
theorem tw_256 : (Jvm.Cond.fieldLink "java/lang/Throwable" (31 : Nat) "java/lang/Throwable" "detailMessage" "Ljava/lang/String;") ∈ TB := tb_a2 16 rfl rfl
theorem tw_257 : (Jvm.Cond.fieldLink "java/lang/Throwable" (7 : Nat) "java/lang/Throwable" "cause" "Ljava/lang/Throwable;") ∈ TB := tb_a2 17 rfl rfl
theorem tw_258 : (Jvm.Cond.fieldLink "java/lang/Throwable" (17 : Nat) "java/lang/Throwable" "stackTrace" "[Ljava/lang/StackTraceElement;") ∈ TB := tb_a2 18 rfl rfl
theorem tw_259 : (Jvm.Cond.fieldLink "java/lang/Throwable" (24 : Nat) "java/lang/Throwable" "suppressedExceptions" "Ljava/util/List;") ∈ TB := tb_a2 19 rfl rfl
theorem tw_260 : (Jvm.Cond.soleField "java/lang/Throwable" "backtrace") ∈ TB := tb_a2 20 rfl rfl
theorem tw_261 : (Jvm.Cond.soleField "java/lang/Throwable" "detailMessage") ∈ TB := tb_a2 21 rfl rfl
theorem tw_262 : (Jvm.Cond.soleField "java/lang/Throwable" "cause") ∈ TB := tb_a2 22 rfl rfl
theorem tw_263 : (Jvm.Cond.soleField "java/lang/Throwable" "stackTrace") ∈ TB := tb_a2 23 rfl rfl
theorem tw_264 : (Jvm.Cond.lays "java/lang/IllegalArgumentException" "java/lang/Throwable" "depth" "I") ∈ TB := tb_a2 24 rfl rfl
theorem tw_265 : (Jvm.Cond.soleField "java/lang/Throwable" "depth") ∈ TB := tb_a2 25 rfl rfl
theorem tw_266 : (Jvm.Cond.soleField "java/lang/Throwable" "suppressedExceptions") ∈ TB := tb_a2 26 rfl rfl
theorem tw_267 : (Jvm.Cond.superclass "java/lang/IllegalArgumentException" "java/lang/RuntimeException") ∈ TB := tb_a2 27 rfl rfl
theorem tw_268 : (Jvm.Cond.arrayClass Jvm.ClassFile.FieldType.byte) ∈ TB := tb_a2 28 rfl rfl
theorem tw_269 : (Jvm.Cond.methodLink "PageMakerLaw" (62 : Nat) ({ cls := "PageMakerLaw", name := "box", desc := "(LPageMaker;III[J)I" } : Jvm.MethodName)) ∈ TB := tb_a2 29 rfl rfl
theorem tw_270 : (Jvm.Cond.static ({ cls := "PageMakerLaw", name := "box", desc := "(LPageMaker;III[J)I" } : Jvm.MethodName)) ∈ TB := tb_a2 30 rfl rfl
theorem tw_271 : (Jvm.Cond.codeWith ({ cls := "PageMakerLaw", name := "box", desc := "(LPageMaker;III[J)I" } : Jvm.MethodName) method_4_code (6 : Nat) (Option.some Jvm.ClassFile.FieldType.int) [((0 : Nat), (12 : Nat), (15 : Nat), (13 : Nat)), ((0 : Nat), (12 : Nat), (19 : Nat), (19 : Nat))]) ∈ TB := tb_a2 31 rfl rfl
theorem tw_272 : (Jvm.Cond.classLink "PageMakerLaw" (19 : Nat) "java/lang/UnsupportedOperationException") ∈ TB := tb_a2 32 rfl rfl
theorem tw_273 : (Jvm.Cond.methodLink "PageMakerLaw" (15 : Nat) ({ cls := "PageMaker", name := "box", desc := "(III)I" } : Jvm.MethodName)) ∈ TB := tb_a2 33 rfl rfl
theorem tw_274 : (Jvm.Cond.instanceMethod ({ cls := "PageMaker", name := "box", desc := "(III)I" } : Jvm.MethodName)) ∈ TB := tb_a2 34 rfl rfl
theorem tw_275 : (Jvm.Cond.selects "PageMaker" ({ cls := "PageMaker", name := "box", desc := "(III)I" } : Jvm.MethodName) ({ cls := "PageMaker", name := "box", desc := "(III)I" } : Jvm.MethodName)) ∈ TB := tb_a2 35 rfl rfl
theorem tw_276 : (Jvm.Cond.code ({ cls := "PageMaker", name := "box", desc := "(III)I" } : Jvm.MethodName) prog_1_method_3_code (4 : Nat) (Option.some Jvm.ClassFile.FieldType.int)) ∈ TB := tb_a2 36 rfl rfl
theorem tw_278 : (Jvm.Cond.methodLink "PageMaker" (56 : Nat) ({ cls := "PageMaker", name := "needRoom", desc := "()V" } : Jvm.MethodName)) ∈ TB := tb_a2 38 rfl rfl
theorem tw_280 : (Jvm.Cond.instanceMethod ({ cls := "PageMaker", name := "needRoom", desc := "()V" } : Jvm.MethodName)) ∈ TB := tb_a2 40 rfl rfl
theorem tw_281 : (Jvm.Cond.code ({ cls := "PageMaker", name := "needRoom", desc := "()V" } : Jvm.MethodName) prog_1_method_15_code (1 : Nat) (Option.none : Option Jvm.ClassFile.FieldType)) ∈ TB := tb_a2 41 rfl rfl
theorem tw_282 : (Jvm.Cond.classLink "PageMaker" (188 : Nat) "java/lang/UnsupportedOperationException") ∈ TB := tb_a2 42 rfl rfl
theorem tw_283 : (Jvm.Cond.instantiable "java/lang/UnsupportedOperationException" (6 : Nat)) ∈ TB := tb_a2 43 rfl rfl
theorem tw_285 : (Jvm.Cond.selects "java/lang/UnsupportedOperationException" ({ cls := "java/lang/Throwable", name := "fillInStackTrace", desc := "(I)Ljava/lang/Throwable;" } : Jvm.MethodName) ({ cls := "java/lang/Throwable", name := "fillInStackTrace", desc := "(I)Ljava/lang/Throwable;" } : Jvm.MethodName)) ∈ TB := tb_a2 45 rfl rfl
theorem tw_286 : (Jvm.Cond.lays "java/lang/UnsupportedOperationException" "java/lang/Throwable" "cause" "Ljava/lang/Throwable;") ∈ TB := tb_a2 46 rfl rfl
theorem tw_287 : (Jvm.Cond.lays "java/lang/UnsupportedOperationException" "java/lang/Throwable" "stackTrace" "[Ljava/lang/StackTraceElement;") ∈ TB := tb_a2 47 rfl rfl
theorem tw_288 : (Jvm.Cond.lays "java/lang/UnsupportedOperationException" "java/lang/Throwable" "suppressedExceptions" "Ljava/util/List;") ∈ TB := tb_a2 48 rfl rfl
theorem tw_289 : (Jvm.Cond.lays "java/lang/UnsupportedOperationException" "java/lang/Throwable" "detailMessage" "Ljava/lang/String;") ∈ TB := tb_a2 49 rfl rfl
theorem tw_290 : (Jvm.Cond.lays "java/lang/UnsupportedOperationException" "java/lang/Throwable" "backtrace" "Ljava/lang/Object;") ∈ TB := tb_a2 50 rfl rfl
theorem tw_292 : (Jvm.Cond.methodLink "PageMaker" (192 : Nat) ({ cls := "java/lang/UnsupportedOperationException", name := "<init>", desc := "(Ljava/lang/String;)V" } : Jvm.MethodName)) ∈ TB := tb_a2 52 rfl rfl
theorem tw_293 : (Jvm.Cond.instanceMethod ({ cls := "java/lang/UnsupportedOperationException", name := "<init>", desc := "(Ljava/lang/String;)V" } : Jvm.MethodName)) ∈ TB := tb_a2 53 rfl rfl
theorem tw_294 : (Jvm.Cond.code ({ cls := "java/lang/UnsupportedOperationException", name := "<init>", desc := "(Ljava/lang/String;)V" } : Jvm.MethodName) prog_24_method_2_code (2 : Nat) (Option.none : Option Jvm.ClassFile.FieldType)) ∈ TB := tb_a2 54 rfl rfl
theorem tw_295 : (Jvm.Cond.methodLink "java/lang/UnsupportedOperationException" (7 : Nat) ({ cls := "java/lang/RuntimeException", name := "<init>", desc := "(Ljava/lang/String;)V" } : Jvm.MethodName)) ∈ TB := tb_a2 55 rfl rfl
theorem tw_296 : (Jvm.Cond.lays "java/lang/UnsupportedOperationException" "java/lang/Throwable" "depth" "I") ∈ TB := tb_a2 56 rfl rfl
theorem tw_297 : (Jvm.Cond.superclass "java/lang/UnsupportedOperationException" "java/lang/RuntimeException") ∈ TB := tb_a2 57 rfl rfl
theorem tw_298 : (Jvm.Cond.classLink "PageMaker" (59 : Nat) "PageMaker$Box") ∈ TB := tb_a2 58 rfl rfl
theorem tw_299 : (Jvm.Cond.instantiable "PageMaker$Box" (2 : Nat)) ∈ TB := tb_a2 59 rfl rfl
theorem tw_300 : (Jvm.Cond.methodLink "PageMaker" (61 : Nat) ({ cls := "PageMaker$Box", name := "<init>", desc := "(II)V" } : Jvm.MethodName)) ∈ TB := tb_a2 60 rfl rfl
theorem tw_301 : (Jvm.Cond.instanceMethod ({ cls := "PageMaker$Box", name := "<init>", desc := "(II)V" } : Jvm.MethodName)) ∈ TB := tb_a2 61 rfl rfl
theorem tw_302 : (Jvm.Cond.code ({ cls := "PageMaker$Box", name := "<init>", desc := "(II)V" } : Jvm.MethodName) prog_2_method_1_code (3 : Nat) (Option.none : Option Jvm.ClassFile.FieldType)) ∈ TB := tb_a2 62 rfl rfl
theorem tw_304 : (Jvm.Cond.instanceMethod ({ cls := "PageMaker$Item", name := "<init>", desc := "()V" } : Jvm.MethodName)) ∈ TB := tb_a2 64 rfl rfl
theorem tw_305 : (Jvm.Cond.code ({ cls := "PageMaker$Item", name := "<init>", desc := "()V" } : Jvm.MethodName) prog_6_method_1_code (1 : Nat) (Option.none : Option Jvm.ClassFile.FieldType)) ∈ TB := tb_a2 65 rfl rfl
theorem tw_306 : (Jvm.Cond.methodLink "PageMaker$Item" (1 : Nat) ({ cls := "java/lang/Object", name := "<init>", desc := "()V" } : Jvm.MethodName)) ∈ TB := tb_a2 66 rfl rfl
theorem tw_307 : (Jvm.Cond.fieldLink "PageMaker$Box" (7 : Nat) "PageMaker$Box" "height" "I") ∈ TB := tb_a2 67 rfl rfl
theorem tw_308 : (Jvm.Cond.fieldLink "PageMaker$Totals" (31 : Nat) "PageMaker$Box" "height" "I") ∈ TB := tb_a2 68 rfl rfl
theorem tw_309 : (Jvm.Cond.fieldLink "PageMaker" (157 : Nat) "PageMaker$Box" "height" "I") ∈ TB := tb_a2 69 rfl rfl
theorem tw_310 : (Jvm.Cond.fieldLink "PageMaker$Box" (13 : Nat) "PageMaker$Box" "depth" "I") ∈ TB := tb_a2 70 rfl rfl
theorem tw_311 : (Jvm.Cond.laysFinal "PageMaker$Box" "PageMaker$Box" "height" "I") ∈ TB := tb_a2 71 rfl rfl
theorem tw_312 : (Jvm.Cond.soleField "PageMaker$Box" "height") ∈ TB := tb_a2 72 rfl rfl
theorem tw_313 : (Jvm.Cond.laysFinal "PageMaker$Box" "PageMaker$Box" "depth" "I") ∈ TB := tb_a2 73 rfl rfl
theorem tw_314 : (Jvm.Cond.soleField "PageMaker$Box" "depth") ∈ TB := tb_a2 74 rfl rfl
theorem tw_315 : (Jvm.Cond.superclass "PageMaker$Box" "PageMaker$Item") ∈ TB := tb_a2 75 rfl rfl
theorem tw_316 : (Jvm.Cond.methodLink "PageMaker" (64 : Nat) ({ cls := "PageMaker", name := "comeIn", desc := "(LPageMaker$Item;)I" } : Jvm.MethodName)) ∈ TB := tb_a2 76 rfl rfl
theorem tw_318 : (Jvm.Cond.instanceMethod ({ cls := "PageMaker", name := "comeIn", desc := "(LPageMaker$Item;)I" } : Jvm.MethodName)) ∈ TB := tb_a2 78 rfl rfl
theorem tw_319 : (Jvm.Cond.code ({ cls := "PageMaker", name := "comeIn", desc := "(LPageMaker$Item;)I" } : Jvm.MethodName) prog_1_method_18_code (2 : Nat) (Option.some Jvm.ClassFile.FieldType.int)) ∈ TB := tb_a2 79 rfl rfl
theorem tw_320 : (Jvm.Cond.methodLink "PageMaker" (195 : Nat) ({ cls := "java/util/ArrayList", name := "add", desc := "(Ljava/lang/Object;)Z" } : Jvm.MethodName)) ∈ TB := tb_a2 80 rfl rfl
theorem tw_321 : (Jvm.Cond.instanceMethod ({ cls := "java/util/ArrayList", name := "add", desc := "(Ljava/lang/Object;)Z" } : Jvm.MethodName)) ∈ TB := tb_a2 81 rfl rfl
theorem tw_322 : (Jvm.Cond.selects "java/util/ArrayList" ({ cls := "java/util/ArrayList", name := "add", desc := "(Ljava/lang/Object;)Z" } : Jvm.MethodName) ({ cls := "java/util/ArrayList", name := "add", desc := "(Ljava/lang/Object;)Z" } : Jvm.MethodName)) ∈ TB := tb_a2 82 rfl rfl
theorem tw_323 : (Jvm.Cond.code ({ cls := "java/util/ArrayList", name := "add", desc := "(Ljava/lang/Object;)Z" } : Jvm.MethodName) prog_27_method_25_code (2 : Nat) (Option.some Jvm.ClassFile.FieldType.boolean)) ∈ TB := tb_a2 83 rfl rfl
theorem tw_324 : (Jvm.Cond.methodLink "java/util/ArrayList" (131 : Nat) ({ cls := "java/util/ArrayList", name := "add", desc := "(Ljava/lang/Object;[Ljava/lang/Object;I)V" } : Jvm.MethodName)) ∈ TB := tb_a2 84 rfl rfl
theorem tw_326 : (Jvm.Cond.instanceMethod ({ cls := "java/util/ArrayList", name := "add", desc := "(Ljava/lang/Object;[Ljava/lang/Object;I)V" } : Jvm.MethodName)) ∈ TB := tb_a2 86 rfl rfl
theorem tw_327 : (Jvm.Cond.code ({ cls := "java/util/ArrayList", name := "add", desc := "(Ljava/lang/Object;[Ljava/lang/Object;I)V" } : Jvm.MethodName) prog_27_method_24_code (4 : Nat) (Option.none : Option Jvm.ClassFile.FieldType)) ∈ TB := tb_a2 87 rfl rfl
theorem tw_328 : (Jvm.Cond.methodLink "java/util/ArrayList" (129 : Nat) ({ cls := "java/util/ArrayList", name := "grow", desc := "()[Ljava/lang/Object;" } : Jvm.MethodName)) ∈ TB := tb_a2 88 rfl rfl
theorem tw_330 : (Jvm.Cond.instanceMethod ({ cls := "java/util/ArrayList", name := "grow", desc := "()[Ljava/lang/Object;" } : Jvm.MethodName)) ∈ TB := tb_a2 90 rfl rfl
theorem tw_331 : (Jvm.Cond.code ({ cls := "java/util/ArrayList", name := "grow", desc := "()[Ljava/lang/Object;" } : Jvm.MethodName) prog_27_method_7_code (1 : Nat) (Option.some (Jvm.ClassFile.FieldType.array (Jvm.ClassFile.FieldType.object "java/lang/Object")))) ∈ TB := tb_a2 91 rfl rfl
theorem tw_332 : (Jvm.Cond.methodLink "java/util/ArrayList" (69 : Nat) ({ cls := "java/util/ArrayList", name := "grow", desc := "(I)[Ljava/lang/Object;" } : Jvm.MethodName)) ∈ TB := tb_a2 92 rfl rfl
theorem tw_334 : (Jvm.Cond.instanceMethod ({ cls := "java/util/ArrayList", name := "grow", desc := "(I)[Ljava/lang/Object;" } : Jvm.MethodName)) ∈ TB := tb_a2 94 rfl rfl
theorem tw_335 : (Jvm.Cond.code ({ cls := "java/util/ArrayList", name := "grow", desc := "(I)[Ljava/lang/Object;" } : Jvm.MethodName) prog_27_method_6_code (4 : Nat) (Option.some (Jvm.ClassFile.FieldType.array (Jvm.ClassFile.FieldType.object "java/lang/Object")))) ∈ TB := tb_a2 95 rfl rfl
theorem tw_336 : (Jvm.Cond.methodLink "java/util/ArrayList" (73 : Nat) ({ cls := "jdk/internal/util/ArraysSupport", name := "newLength", desc := "(III)I" } : Jvm.MethodName)) ∈ TB := tb_a2 96 rfl rfl
theorem tw_337 : (Jvm.Cond.static ({ cls := "jdk/internal/util/ArraysSupport", name := "newLength", desc := "(III)I" } : Jvm.MethodName)) ∈ TB := tb_a2 97 rfl rfl
theorem tw_338 : (Jvm.Cond.code ({ cls := "jdk/internal/util/ArraysSupport", name := "newLength", desc := "(III)I" } : Jvm.MethodName) prog_34_method_27_code (4 : Nat) (Option.some Jvm.ClassFile.FieldType.int)) ∈ TB := tb_a2 98 rfl rfl
theorem tw_339 : (Jvm.Cond.methodLink "jdk/internal/util/ArraysSupport" (194 : Nat) ({ cls := "java/lang/Math", name := "max", desc := "(II)I" } : Jvm.MethodName)) ∈ TB := tb_a2 99 rfl rfl
theorem tw_340 : (Jvm.Cond.static ({ cls := "java/lang/Math", name := "max", desc := "(II)I" } : Jvm.MethodName)) ∈ TB := tb_a2 100 rfl rfl
theorem tw_341 : (Jvm.Cond.code ({ cls := "java/lang/Math", name := "max", desc := "(II)I" } : Jvm.MethodName) prog_19_method_65_code (2 : Nat) (Option.some Jvm.ClassFile.FieldType.int)) ∈ TB := tb_a2 101 rfl rfl
theorem tw_342 : (Jvm.Cond.constant "jdk/internal/util/ArraysSupport" (200 : Nat) (2147483639 : Int32)) ∈ TB := tb_a2 102 rfl rfl
theorem tw_343 : (Jvm.Cond.methodLink "jdk/internal/util/ArraysSupport" (201 : Nat) ({ cls := "jdk/internal/util/ArraysSupport", name := "hugeLength", desc := "(II)I" } : Jvm.MethodName)) ∈ TB := tb_a2 103 rfl rfl
theorem tw_344 : (Jvm.Cond.static ({ cls := "jdk/internal/util/ArraysSupport", name := "hugeLength", desc := "(II)I" } : Jvm.MethodName)) ∈ TB := tb_a2 104 rfl rfl
theorem tw_345 : (Jvm.Cond.code ({ cls := "jdk/internal/util/ArraysSupport", name := "hugeLength", desc := "(II)I" } : Jvm.MethodName) prog_34_method_28_code (3 : Nat) (Option.some Jvm.ClassFile.FieldType.int)) ∈ TB := tb_a2 105 rfl rfl
theorem tw_346 : (Jvm.Cond.methodLink "java/util/ArrayList" (66 : Nat) ({ cls := "java/util/Arrays", name := "copyOf", desc := "([Ljava/lang/Object;I)[Ljava/lang/Object;" } : Jvm.MethodName)) ∈ TB := tb_a2 106 rfl rfl
theorem tw_347 : (Jvm.Cond.static ({ cls := "java/util/Arrays", name := "copyOf", desc := "([Ljava/lang/Object;I)[Ljava/lang/Object;" } : Jvm.MethodName)) ∈ TB := tb_a2 107 rfl rfl
theorem tw_348 : (Jvm.Cond.code ({ cls := "java/util/Arrays", name := "copyOf", desc := "([Ljava/lang/Object;I)[Ljava/lang/Object;" } : Jvm.MethodName) prog_28_method_119_code (2 : Nat) (Option.some (Jvm.ClassFile.FieldType.array (Jvm.ClassFile.FieldType.object "java/lang/Object")))) ∈ TB := tb_a2 108 rfl rfl
theorem tw_349 : (Jvm.Cond.methodLink "java/util/Arrays" (86 : Nat) ({ cls := "java/lang/Object", name := "getClass", desc := "()Ljava/lang/Class;" } : Jvm.MethodName)) ∈ TB := tb_a2 109 rfl rfl
theorem tw_350 : (Jvm.Cond.instanceMethod ({ cls := "java/lang/Object", name := "getClass", desc := "()Ljava/lang/Class;" } : Jvm.MethodName)) ∈ TB := tb_a2 110 rfl rfl
theorem tw_351 : (Jvm.Cond.sameMethod "java/lang/Object" "java/lang/Object" "getClass" "()Ljava/lang/Class;") ∈ TB := tb_a2 111 rfl rfl
theorem tw_352 : (Jvm.Cond.selects "PageMaker" ({ cls := "java/lang/Object", name := "getClass", desc := "()Ljava/lang/Class;" } : Jvm.MethodName) ({ cls := "java/lang/Object", name := "getClass", desc := "()Ljava/lang/Class;" } : Jvm.MethodName)) ∈ TB := tb_a2 112 rfl rfl
theorem tw_353 : (Jvm.Cond.selects "PageMaker$Box" ({ cls := "java/lang/Object", name := "getClass", desc := "()Ljava/lang/Class;" } : Jvm.MethodName) ({ cls := "java/lang/Object", name := "getClass", desc := "()Ljava/lang/Class;" } : Jvm.MethodName)) ∈ TB := tb_a2 113 rfl rfl
theorem tw_354 : (Jvm.Cond.selects "PageMaker$EndedPage" ({ cls := "java/lang/Object", name := "getClass", desc := "()Ljava/lang/Class;" } : Jvm.MethodName) ({ cls := "java/lang/Object", name := "getClass", desc := "()Ljava/lang/Class;" } : Jvm.MethodName)) ∈ TB := tb_a2 114 rfl rfl
theorem tw_355 : (Jvm.Cond.selects "PageMaker$Frame" ({ cls := "java/lang/Object", name := "getClass", desc := "()Ljava/lang/Class;" } : Jvm.MethodName) ({ cls := "java/lang/Object", name := "getClass", desc := "()Ljava/lang/Class;" } : Jvm.MethodName)) ∈ TB := tb_a2 115 rfl rfl
theorem tw_356 : (Jvm.Cond.selects "PageMaker$Glue" ({ cls := "java/lang/Object", name := "getClass", desc := "()Ljava/lang/Class;" } : Jvm.MethodName) ({ cls := "java/lang/Object", name := "getClass", desc := "()Ljava/lang/Class;" } : Jvm.MethodName)) ∈ TB := tb_a2 116 rfl rfl
theorem tw_357 : (Jvm.Cond.selects "PageMaker$Kern" ({ cls := "java/lang/Object", name := "getClass", desc := "()Ljava/lang/Class;" } : Jvm.MethodName) ({ cls := "java/lang/Object", name := "getClass", desc := "()Ljava/lang/Class;" } : Jvm.MethodName)) ∈ TB := tb_a2 117 rfl rfl
theorem tw_358 : (Jvm.Cond.selects "PageMaker$OpenPage" ({ cls := "java/lang/Object", name := "getClass", desc := "()Ljava/lang/Class;" } : Jvm.MethodName) ({ cls := "java/lang/Object", name := "getClass", desc := "()Ljava/lang/Class;" } : Jvm.MethodName)) ∈ TB := tb_a2 118 rfl rfl
theorem tw_359 : (Jvm.Cond.selects "PageMaker$Penalty" ({ cls := "java/lang/Object", name := "getClass", desc := "()Ljava/lang/Class;" } : Jvm.MethodName) ({ cls := "java/lang/Object", name := "getClass", desc := "()Ljava/lang/Class;" } : Jvm.MethodName)) ∈ TB := tb_a2 119 rfl rfl
theorem tw_360 : (Jvm.Cond.selects "PageMaker$Totals" ({ cls := "java/lang/Object", name := "getClass", desc := "()Ljava/lang/Class;" } : Jvm.MethodName) ({ cls := "java/lang/Object", name := "getClass", desc := "()Ljava/lang/Class;" } : Jvm.MethodName)) ∈ TB := tb_a2 120 rfl rfl
theorem tw_361 : (Jvm.Cond.selects "PageMakerModel" ({ cls := "java/lang/Object", name := "getClass", desc := "()Ljava/lang/Class;" } : Jvm.MethodName) ({ cls := "java/lang/Object", name := "getClass", desc := "()Ljava/lang/Class;" } : Jvm.MethodName)) ∈ TB := tb_a2 121 rfl rfl
theorem tw_362 : (Jvm.Cond.selects "java/lang/IllegalArgumentException" ({ cls := "java/lang/Object", name := "getClass", desc := "()Ljava/lang/Class;" } : Jvm.MethodName) ({ cls := "java/lang/Object", name := "getClass", desc := "()Ljava/lang/Class;" } : Jvm.MethodName)) ∈ TB := tb_a2 122 rfl rfl
theorem tw_363 : (Jvm.Cond.selects "java/lang/IndexOutOfBoundsException" ({ cls := "java/lang/Object", name := "getClass", desc := "()Ljava/lang/Class;" } : Jvm.MethodName) ({ cls := "java/lang/Object", name := "getClass", desc := "()Ljava/lang/Class;" } : Jvm.MethodName)) ∈ TB := tb_a2 123 rfl rfl
theorem tw_364 : (Jvm.Cond.selects "java/lang/UnsupportedOperationException" ({ cls := "java/lang/Object", name := "getClass", desc := "()Ljava/lang/Class;" } : Jvm.MethodName) ({ cls := "java/lang/Object", name := "getClass", desc := "()Ljava/lang/Class;" } : Jvm.MethodName)) ∈ TB := tb_a2 124 rfl rfl
theorem tw_365 : (Jvm.Cond.selects "java/util/ArrayList" ({ cls := "java/lang/Object", name := "getClass", desc := "()Ljava/lang/Class;" } : Jvm.MethodName) ({ cls := "java/lang/Object", name := "getClass", desc := "()Ljava/lang/Class;" } : Jvm.MethodName)) ∈ TB := tb_a2 125 rfl rfl
theorem tw_366 : (Jvm.Cond.native ({ cls := "java/lang/Object", name := "getClass", desc := "()Ljava/lang/Class;" } : Jvm.MethodName)) ∈ TB := tb_a2 126 rfl rfl
theorem tw_367 : (Jvm.Cond.methodLink "java/util/Arrays" (300 : Nat) ({ cls := "java/util/Arrays", name := "copyOf", desc := "([Ljava/lang/Object;ILjava/lang/Class;)[Ljava/lang/Object;" } : Jvm.MethodName)) ∈ TB := tb_a2 127 rfl rfl
theorem tw_368 : (Jvm.Cond.static ({ cls := "java/util/Arrays", name := "copyOf", desc := "([Ljava/lang/Object;ILjava/lang/Class;)[Ljava/lang/Object;" } : Jvm.MethodName)) ∈ TB := tb_a2 128 rfl rfl
theorem tw_369 : (Jvm.Cond.code ({ cls := "java/util/Arrays", name := "copyOf", desc := "([Ljava/lang/Object;ILjava/lang/Class;)[Ljava/lang/Object;" } : Jvm.MethodName) prog_28_method_120_code (4 : Nat) (Option.some (Jvm.ClassFile.FieldType.array (Jvm.ClassFile.FieldType.object "java/lang/Object")))) ∈ TB := tb_a2 129 rfl rfl
theorem tw_370 : (Jvm.Cond.classLink "java/util/Arrays" (110 : Nat) "[Ljava/lang/Object;") ∈ TB := tb_a2 130 rfl rfl
theorem tw_372 : (Jvm.Cond.classLink "java/util/Arrays" (2 : Nat) "java/lang/Object") ∈ TB := tb_a2 132 rfl rfl
theorem tw_373 : (Jvm.Cond.methodLink "java/util/Arrays" (304 : Nat) ({ cls := "java/lang/Math", name := "min", desc := "(II)I" } : Jvm.MethodName)) ∈ TB := tb_a2 133 rfl rfl
theorem tw_374 : (Jvm.Cond.static ({ cls := "java/lang/Math", name := "min", desc := "(II)I" } : Jvm.MethodName)) ∈ TB := tb_a2 134 rfl rfl
theorem tw_375 : (Jvm.Cond.code ({ cls := "java/lang/Math", name := "min", desc := "(II)I" } : Jvm.MethodName) prog_19_method_69_code (2 : Nat) (Option.some Jvm.ClassFile.FieldType.int)) ∈ TB := tb_a2 135 rfl rfl
theorem tw_376 : (Jvm.Cond.methodLink "java/util/Arrays" (150 : Nat) ({ cls := "java/lang/System", name := "arraycopy", desc := "(Ljava/lang/Object;ILjava/lang/Object;II)V" } : Jvm.MethodName)) ∈ TB := tb_a2 136 rfl rfl
theorem tw_377 : (Jvm.Cond.static ({ cls := "java/lang/System", name := "arraycopy", desc := "(Ljava/lang/Object;ILjava/lang/Object;II)V" } : Jvm.MethodName)) ∈ TB := tb_a2 137 rfl rfl
theorem tw_378 : (Jvm.Cond.native ({ cls := "java/lang/System", name := "arraycopy", desc := "(Ljava/lang/Object;ILjava/lang/Object;II)V" } : Jvm.MethodName)) ∈ TB := tb_a2 138 rfl rfl
theorem tw_379 : (Jvm.Cond.methodLink "java/util/ArrayList" (79 : Nat) ({ cls := "java/lang/Math", name := "max", desc := "(II)I" } : Jvm.MethodName)) ∈ TB := tb_a2 139 rfl rfl
theorem tw_380 : (Jvm.Cond.classLink "java/util/ArrayList" (7 : Nat) "java/lang/Object") ∈ TB := tb_a2 140 rfl rfl
theorem tw_381 : (Jvm.Cond.methodLink "PageMaker" (199 : Nat) ({ cls := "PageMaker", name := "lookFrom", desc := "(I)V" } : Jvm.MethodName)) ∈ TB := tb_a2 141 rfl rfl
theorem tw_383 : (Jvm.Cond.instanceMethod ({ cls := "PageMaker", name := "lookFrom", desc := "(I)V" } : Jvm.MethodName)) ∈ TB := tb_a2 143 rfl rfl
theorem tw_384 : (Jvm.Cond.code ({ cls := "PageMaker", name := "lookFrom", desc := "(I)V" } : Jvm.MethodName) prog_1_method_19_code (5 : Nat) (Option.none : Option Jvm.ClassFile.FieldType)) ∈ TB := tb_a2 144 rfl rfl
theorem tw_385 : (Jvm.Cond.constant "PageMaker" (202 : Nat) (4004001 : Int32)) ∈ TB := tb_a2 145 rfl rfl
theorem tw_386 : (Jvm.Cond.methodLink "PageMaker" (132 : Nat) ({ cls := "PageMaker", name := "isItem", desc := "(I)Z" } : Jvm.MethodName)) ∈ TB := tb_a2 146 rfl rfl
theorem tw_388 : (Jvm.Cond.instanceMethod ({ cls := "PageMaker", name := "isItem", desc := "(I)Z" } : Jvm.MethodName)) ∈ TB := tb_a2 148 rfl rfl
theorem tw_389 : (Jvm.Cond.code ({ cls := "PageMaker", name := "isItem", desc := "(I)Z" } : Jvm.MethodName) prog_1_method_17_code (2 : Nat) (Option.some Jvm.ClassFile.FieldType.boolean)) ∈ TB := tb_a2 149 rfl rfl
theorem tw_390 : (Jvm.Cond.methodLink "PageMaker" (138 : Nat) ({ cls := "java/util/ArrayList", name := "get", desc := "(I)Ljava/lang/Object;" } : Jvm.MethodName)) ∈ TB := tb_a2 150 rfl rfl
theorem tw_391 : (Jvm.Cond.instanceMethod ({ cls := "java/util/ArrayList", name := "get", desc := "(I)Ljava/lang/Object;" } : Jvm.MethodName)) ∈ TB := tb_a2 151 rfl rfl
theorem tw_392 : (Jvm.Cond.selects "java/util/ArrayList" ({ cls := "java/util/ArrayList", name := "get", desc := "(I)Ljava/lang/Object;" } : Jvm.MethodName) ({ cls := "java/util/ArrayList", name := "get", desc := "(I)Ljava/lang/Object;" } : Jvm.MethodName)) ∈ TB := tb_a2 152 rfl rfl
theorem tw_393 : (Jvm.Cond.code ({ cls := "java/util/ArrayList", name := "get", desc := "(I)Ljava/lang/Object;" } : Jvm.MethodName) prog_27_method_20_code (2 : Nat) (Option.some (Jvm.ClassFile.FieldType.object "java/lang/Object"))) ∈ TB := tb_a2 153 rfl rfl
theorem tw_394 : (Jvm.Cond.methodLink "java/util/ArrayList" (118 : Nat) ({ cls := "java/util/Objects", name := "checkIndex", desc := "(II)I" } : Jvm.MethodName)) ∈ TB := tb_a2 154 rfl rfl
theorem tw_395 : (Jvm.Cond.static ({ cls := "java/util/Objects", name := "checkIndex", desc := "(II)I" } : Jvm.MethodName)) ∈ TB := tb_a2 155 rfl rfl
theorem tw_396 : (Jvm.Cond.code ({ cls := "java/util/Objects", name := "checkIndex", desc := "(II)I" } : Jvm.MethodName) prog_31_method_17_code (2 : Nat) (Option.some Jvm.ClassFile.FieldType.int)) ∈ TB := tb_a2 156 rfl rfl
theorem tw_397 : (Jvm.Cond.methodLink "java/util/Objects" (105 : Nat) ({ cls := "jdk/internal/util/Preconditions", name := "checkIndex", desc := "(IILjava/util/function/BiFunction;)I" } : Jvm.MethodName)) ∈ TB := tb_a2 157 rfl rfl
theorem tw_398 : (Jvm.Cond.static ({ cls := "jdk/internal/util/Preconditions", name := "checkIndex", desc := "(IILjava/util/function/BiFunction;)I" } : Jvm.MethodName)) ∈ TB := tb_a2 158 rfl rfl
theorem tw_399 : (Jvm.Cond.code ({ cls := "jdk/internal/util/Preconditions", name := "checkIndex", desc := "(IILjava/util/function/BiFunction;)I" } : Jvm.MethodName) prog_35_method_11_code (3 : Nat) (Option.some Jvm.ClassFile.FieldType.int)) ∈ TB := tb_a2 159 rfl rfl
theorem tw_400 : (Jvm.Cond.methodLink "java/util/ArrayList" (123 : Nat) ({ cls := "java/util/ArrayList", name := "elementData", desc := "(I)Ljava/lang/Object;" } : Jvm.MethodName)) ∈ TB := tb_a2 160 rfl rfl
theorem tw_401 : (Jvm.Cond.instanceMethod ({ cls := "java/util/ArrayList", name := "elementData", desc := "(I)Ljava/lang/Object;" } : Jvm.MethodName)) ∈ TB := tb_a2 161 rfl rfl
theorem tw_402 : (Jvm.Cond.selects "java/util/ArrayList" ({ cls := "java/util/ArrayList", name := "elementData", desc := "(I)Ljava/lang/Object;" } : Jvm.MethodName) ({ cls := "java/util/ArrayList", name := "elementData", desc := "(I)Ljava/lang/Object;" } : Jvm.MethodName)) ∈ TB := tb_a2 162 rfl rfl
theorem tw_403 : (Jvm.Cond.code ({ cls := "java/util/ArrayList", name := "elementData", desc := "(I)Ljava/lang/Object;" } : Jvm.MethodName) prog_27_method_18_code (2 : Nat) (Option.some (Jvm.ClassFile.FieldType.object "java/lang/Object"))) ∈ TB := tb_a2 163 rfl rfl
theorem tw_404 : (Jvm.Cond.classLink "PageMaker" (203 : Nat) "PageMaker$Item") ∈ TB := tb_a2 164 rfl rfl
theorem tw_405 : (Jvm.Cond.methodLink "PageMaker" (205 : Nat) ({ cls := "PageMaker", name := "breakEndsPage", desc := "(ILPageMaker$Item;)Z" } : Jvm.MethodName)) ∈ TB := tb_a2 165 rfl rfl
theorem tw_407 : (Jvm.Cond.instanceMethod ({ cls := "PageMaker", name := "breakEndsPage", desc := "(ILPageMaker$Item;)Z" } : Jvm.MethodName)) ∈ TB := tb_a2 167 rfl rfl
theorem tw_408 : (Jvm.Cond.code ({ cls := "PageMaker", name := "breakEndsPage", desc := "(ILPageMaker$Item;)Z" } : Jvm.MethodName) prog_1_method_20_code (4 : Nat) (Option.some Jvm.ClassFile.FieldType.boolean)) ∈ TB := tb_a2 168 rfl rfl
theorem tw_409 : (Jvm.Cond.methodLink "PageMaker" (216 : Nat) ({ cls := "PageMaker$OpenPage", name := "hasBegun", desc := "()Z" } : Jvm.MethodName)) ∈ TB := tb_a2 169 rfl rfl
theorem tw_410 : (Jvm.Cond.instanceMethod ({ cls := "PageMaker$OpenPage", name := "hasBegun", desc := "()Z" } : Jvm.MethodName)) ∈ TB := tb_a2 170 rfl rfl
theorem tw_411 : (Jvm.Cond.selects "PageMaker$OpenPage" ({ cls := "PageMaker$OpenPage", name := "hasBegun", desc := "()Z" } : Jvm.MethodName) ({ cls := "PageMaker$OpenPage", name := "hasBegun", desc := "()Z" } : Jvm.MethodName)) ∈ TB := tb_a2 171 rfl rfl
theorem tw_412 : (Jvm.Cond.code ({ cls := "PageMaker$OpenPage", name := "hasBegun", desc := "()Z" } : Jvm.MethodName) prog_8_method_2_code (1 : Nat) (Option.some Jvm.ClassFile.FieldType.boolean)) ∈ TB := tb_a2 172 rfl rfl
theorem tw_413 : (Jvm.Cond.classLink "PageMaker" (88 : Nat) "PageMaker$Penalty") ∈ TB := tb_a2 173 rfl rfl
theorem tw_414 : (Jvm.Cond.methodLink "PageMaker" (223 : Nat) ({ cls := "PageMaker$OpenPage", name := "endsAtBreak", desc := "(IJI)Z" } : Jvm.MethodName)) ∈ TB := tb_a2 174 rfl rfl
theorem tw_415 : (Jvm.Cond.instanceMethod ({ cls := "PageMaker$OpenPage", name := "endsAtBreak", desc := "(IJI)Z" } : Jvm.MethodName)) ∈ TB := tb_a2 175 rfl rfl
theorem tw_416 : (Jvm.Cond.selects "PageMaker$OpenPage" ({ cls := "PageMaker$OpenPage", name := "endsAtBreak", desc := "(IJI)Z" } : Jvm.MethodName) ({ cls := "PageMaker$OpenPage", name := "endsAtBreak", desc := "(IJI)Z" } : Jvm.MethodName)) ∈ TB := tb_a2 176 rfl rfl
theorem tw_417 : (Jvm.Cond.code ({ cls := "PageMaker$OpenPage", name := "endsAtBreak", desc := "(IJI)Z" } : Jvm.MethodName) prog_8_method_5_code (7 : Nat) (Option.some Jvm.ClassFile.FieldType.boolean)) ∈ TB := tb_a2 177 rfl rfl
theorem tw_418 : (Jvm.Cond.methodLink "PageMaker$OpenPage" (65 : Nat) ({ cls := "PageMaker$Totals", name := "badnessOfExcess", desc := "(J)I" } : Jvm.MethodName)) ∈ TB := tb_a2 178 rfl rfl
theorem tw_419 : (Jvm.Cond.instanceMethod ({ cls := "PageMaker$Totals", name := "badnessOfExcess", desc := "(J)I" } : Jvm.MethodName)) ∈ TB := tb_a2 179 rfl rfl
theorem tw_420 : (Jvm.Cond.selects "PageMaker$Totals" ({ cls := "PageMaker$Totals", name := "badnessOfExcess", desc := "(J)I" } : Jvm.MethodName) ({ cls := "PageMaker$Totals", name := "badnessOfExcess", desc := "(J)I" } : Jvm.MethodName)) ∈ TB := tb_a2 180 rfl rfl
theorem tw_421 : (Jvm.Cond.code ({ cls := "PageMaker$Totals", name := "badnessOfExcess", desc := "(J)I" } : Jvm.MethodName) prog_10_method_5_code (3 : Nat) (Option.some Jvm.ClassFile.FieldType.int)) ∈ TB := tb_a2 181 rfl rfl
theorem tw_422 : (Jvm.Cond.methodLink "PageMaker$Totals" (46 : Nat) ({ cls := "PageMaker$Totals", name := "greatestOrder", desc := "()I" } : Jvm.MethodName)) ∈ TB := tb_a2 182 rfl rfl
theorem tw_423 : (Jvm.Cond.instanceMethod ({ cls := "PageMaker$Totals", name := "greatestOrder", desc := "()I" } : Jvm.MethodName)) ∈ TB := tb_a2 183 rfl rfl
theorem tw_424 : (Jvm.Cond.selects "PageMaker$Totals" ({ cls := "PageMaker$Totals", name := "greatestOrder", desc := "()I" } : Jvm.MethodName) ({ cls := "PageMaker$Totals", name := "greatestOrder", desc := "()I" } : Jvm.MethodName)) ∈ TB := tb_a2 184 rfl rfl
theorem tw_425 : (Jvm.Cond.code ({ cls := "PageMaker$Totals", name := "greatestOrder", desc := "()I" } : Jvm.MethodName) prog_10_method_4_code (2 : Nat) (Option.some Jvm.ClassFile.FieldType.int)) ∈ TB := tb_a2 185 rfl rfl
theorem tw_427 : (Jvm.Cond.static ({ cls := "PageMaker", name := "badnessOf", desc := "(JJ)I" } : Jvm.MethodName)) ∈ TB := tb_a2 187 rfl rfl
theorem tw_428 : (Jvm.Cond.code ({ cls := "PageMaker", name := "badnessOf", desc := "(JJ)I" } : Jvm.MethodName) prog_1_method_24_code (6 : Nat) (Option.some Jvm.ClassFile.FieldType.int)) ∈ TB := tb_a2 188 rfl rfl
theorem tw_429 : (Jvm.Cond.constantLong "PageMaker" (250 : Nat) (7230584 : Int64)) ∈ TB := tb_a2 189 rfl rfl
theorem tw_430 : (Jvm.Cond.constantLong "PageMaker" (252 : Nat) (297 : Int64)) ∈ TB := tb_a2 190 rfl rfl
theorem tw_431 : (Jvm.Cond.constantLong "PageMaker" (254 : Nat) (1663497 : Int64)) ∈ TB := tb_a2 191 rfl rfl
theorem tw_432 : (Jvm.Cond.constantLong "PageMaker" (256 : Nat) (1290 : Int64)) ∈ TB := tb_a2 192 rfl rfl
theorem tw_433 : (Jvm.Cond.constantLong "PageMaker" (258 : Nat) (131072 : Int64)) ∈ TB := tb_a2 193 rfl rfl
theorem tw_434 : (Jvm.Cond.constantLong "PageMaker" (260 : Nat) (262144 : Int64)) ∈ TB := tb_a2 194 rfl rfl
theorem tw_435 : (Jvm.Cond.constant "PageMaker$Totals" (54 : Nat) (1073741823 : Int32)) ∈ TB := tb_a2 195 rfl rfl
theorem tw_437 : (Jvm.Cond.static ({ cls := "PageMaker", name := "costOf", desc := "(II)I" } : Jvm.MethodName)) ∈ TB := tb_a2 197 rfl rfl
theorem tw_438 : (Jvm.Cond.code ({ cls := "PageMaker", name := "costOf", desc := "(II)I" } : Jvm.MethodName) prog_1_method_25_code (2 : Nat) (Option.some Jvm.ClassFile.FieldType.int)) ∈ TB := tb_a2 198 rfl rfl
theorem tw_439 : (Jvm.Cond.constant "PageMaker" (85 : Nat) (100000 : Int32)) ∈ TB := tb_a2 199 rfl rfl
theorem tw_440 : (Jvm.Cond.classLink "PageMaker" (72 : Nat) "PageMaker$Glue") ∈ TB := tb_a2 200 rfl rfl
theorem tw_441 : (Jvm.Cond.classLink "PageMaker" (79 : Nat) "PageMaker$Kern") ∈ TB := tb_a2 201 rfl rfl
theorem tw_442 : (Jvm.Cond.methodLink "PageMaker" (209 : Nat) ({ cls := "PageMaker", name := "endOpenPage", desc := "()I" } : Jvm.MethodName)) ∈ TB := tb_a2 202 rfl rfl
theorem tw_444 : (Jvm.Cond.instanceMethod ({ cls := "PageMaker", name := "endOpenPage", desc := "()I" } : Jvm.MethodName)) ∈ TB := tb_a2 204 rfl rfl
theorem tw_445 : (Jvm.Cond.code ({ cls := "PageMaker", name := "endOpenPage", desc := "()I" } : Jvm.MethodName) prog_1_method_22_code (2 : Nat) (Option.some Jvm.ClassFile.FieldType.int)) ∈ TB := tb_a2 205 rfl rfl
theorem tw_446 : (Jvm.Cond.classLink "PageMaker" (100 : Nat) "PageMaker$EndedPage") ∈ TB := tb_a2 206 rfl rfl
theorem tw_447 : (Jvm.Cond.instantiable "PageMaker$EndedPage" (9 : Nat)) ∈ TB := tb_a2 207 rfl rfl
theorem tw_448 : (Jvm.Cond.methodLink "PageMaker" (145 : Nat) ({ cls := "PageMaker", name := "totalsOf", desc := "(LPageMaker$Frame;II)LPageMaker$Totals;" } : Jvm.MethodName)) ∈ TB := tb_a2 208 rfl rfl
theorem tw_450 : (Jvm.Cond.instanceMethod ({ cls := "PageMaker", name := "totalsOf", desc := "(LPageMaker$Frame;II)LPageMaker$Totals;" } : Jvm.MethodName)) ∈ TB := tb_a2 210 rfl rfl
theorem tw_451 : (Jvm.Cond.code ({ cls := "PageMaker", name := "totalsOf", desc := "(LPageMaker$Frame;II)LPageMaker$Totals;" } : Jvm.MethodName) prog_1_method_23_code (7 : Nat) (Option.some (Jvm.ClassFile.FieldType.object "PageMaker$Totals"))) ∈ TB := tb_a2 211 rfl rfl
theorem tw_452 : (Jvm.Cond.classLink "PageMaker" (150 : Nat) "PageMaker$Totals") ∈ TB := tb_a2 212 rfl rfl
theorem tw_454 : (Jvm.Cond.methodLink "PageMaker" (242 : Nat) ({ cls := "PageMaker$Totals", name := "addTopGlue", desc := "(LPageMaker$Frame;LPageMaker$Box;)V" } : Jvm.MethodName)) ∈ TB := tb_a2 214 rfl rfl
theorem tw_455 : (Jvm.Cond.instanceMethod ({ cls := "PageMaker$Totals", name := "addTopGlue", desc := "(LPageMaker$Frame;LPageMaker$Box;)V" } : Jvm.MethodName)) ∈ TB := tb_a2 215 rfl rfl
theorem tw_456 : (Jvm.Cond.selects "PageMaker$Totals" ({ cls := "PageMaker$Totals", name := "addTopGlue", desc := "(LPageMaker$Frame;LPageMaker$Box;)V" } : Jvm.MethodName) ({ cls := "PageMaker$Totals", name := "addTopGlue", desc := "(LPageMaker$Frame;LPageMaker$Box;)V" } : Jvm.MethodName)) ∈ TB := tb_a2 216 rfl rfl
theorem tw_457 : (Jvm.Cond.code ({ cls := "PageMaker$Totals", name := "addTopGlue", desc := "(LPageMaker$Frame;LPageMaker$Box;)V" } : Jvm.MethodName) prog_10_method_2_code (3 : Nat) (Option.none : Option Jvm.ClassFile.FieldType)) ∈ TB := tb_a2 217 rfl rfl
theorem tw_458 : (Jvm.Cond.methodLink "PageMaker$Totals" (36 : Nat) ({ cls := "java/lang/Math", name := "max", desc := "(JJ)J" } : Jvm.MethodName)) ∈ TB := tb_a2 218 rfl rfl
theorem tw_459 : (Jvm.Cond.static ({ cls := "java/lang/Math", name := "max", desc := "(JJ)J" } : Jvm.MethodName)) ∈ TB := tb_a2 219 rfl rfl
theorem tw_460 : (Jvm.Cond.code ({ cls := "java/lang/Math", name := "max", desc := "(JJ)J" } : Jvm.MethodName) prog_19_method_66_code (4 : Nat) (Option.some Jvm.ClassFile.FieldType.long)) ∈ TB := tb_a2 220 rfl rfl
theorem tw_461 : (Jvm.Cond.methodLink "PageMaker$Totals" (42 : Nat) ({ cls := "PageMaker$Totals", name := "addSpace", desc := "(J)V" } : Jvm.MethodName)) ∈ TB := tb_a2 221 rfl rfl
theorem tw_462 : (Jvm.Cond.instanceMethod ({ cls := "PageMaker$Totals", name := "addSpace", desc := "(J)V" } : Jvm.MethodName)) ∈ TB := tb_a2 222 rfl rfl
theorem tw_463 : (Jvm.Cond.selects "PageMaker$Totals" ({ cls := "PageMaker$Totals", name := "addSpace", desc := "(J)V" } : Jvm.MethodName) ({ cls := "PageMaker$Totals", name := "addSpace", desc := "(J)V" } : Jvm.MethodName)) ∈ TB := tb_a2 223 rfl rfl
theorem tw_464 : (Jvm.Cond.code ({ cls := "PageMaker$Totals", name := "addSpace", desc := "(J)V" } : Jvm.MethodName) prog_10_method_3_code (3 : Nat) (Option.none : Option Jvm.ClassFile.FieldType)) ∈ TB := tb_a2 224 rfl rfl
theorem tw_465 : (Jvm.Cond.methodLink "PageMaker" (246 : Nat) ({ cls := "PageMaker$Item", name := "addTo", desc := "(LPageMaker$Totals;LPageMaker$Frame;)V" } : Jvm.MethodName)) ∈ TB := tb_a2 225 rfl rfl
theorem tw_467 : (Jvm.Cond.sameMethod "PageMaker$Item" "PageMaker$Item" "addTo" "(LPageMaker$Totals;LPageMaker$Frame;)V") ∈ TB := tb_a2 227 rfl rfl
theorem tw_468 : (Jvm.Cond.selects "PageMaker$Box" ({ cls := "PageMaker$Item", name := "addTo", desc := "(LPageMaker$Totals;LPageMaker$Frame;)V" } : Jvm.MethodName) ({ cls := "PageMaker$Box", name := "addTo", desc := "(LPageMaker$Totals;LPageMaker$Frame;)V" } : Jvm.MethodName)) ∈ TB := tb_a2 228 rfl rfl
theorem tw_469 : (Jvm.Cond.instanceMethod ({ cls := "PageMaker$Box", name := "addTo", desc := "(LPageMaker$Totals;LPageMaker$Frame;)V" } : Jvm.MethodName)) ∈ TB := tb_a2 229 rfl rfl
theorem tw_470 : (Jvm.Cond.code ({ cls := "PageMaker$Box", name := "addTo", desc := "(LPageMaker$Totals;LPageMaker$Frame;)V" } : Jvm.MethodName) prog_2_method_2_code (3 : Nat) (Option.none : Option Jvm.ClassFile.FieldType)) ∈ TB := tb_a2 230 rfl rfl
theorem tw_471 : (Jvm.Cond.methodLink "PageMaker$Box" (29 : Nat) ({ cls := "java/lang/Math", name := "min", desc := "(II)I" } : Jvm.MethodName)) ∈ TB := tb_a2 231 rfl rfl
theorem tw_472 : (Jvm.Cond.selects "PageMaker$Glue" ({ cls := "PageMaker$Item", name := "addTo", desc := "(LPageMaker$Totals;LPageMaker$Frame;)V" } : Jvm.MethodName) ({ cls := "PageMaker$Glue", name := "addTo", desc := "(LPageMaker$Totals;LPageMaker$Frame;)V" } : Jvm.MethodName)) ∈ TB := tb_a2 232 rfl rfl
theorem tw_473 : (Jvm.Cond.instanceMethod ({ cls := "PageMaker$Glue", name := "addTo", desc := "(LPageMaker$Totals;LPageMaker$Frame;)V" } : Jvm.MethodName)) ∈ TB := tb_a2 233 rfl rfl
theorem tw_474 : (Jvm.Cond.code ({ cls := "PageMaker$Glue", name := "addTo", desc := "(LPageMaker$Totals;LPageMaker$Frame;)V" } : Jvm.MethodName) prog_5_method_2_code (3 : Nat) (Option.none : Option Jvm.ClassFile.FieldType)) ∈ TB := tb_a2 234 rfl rfl
theorem tw_475 : (Jvm.Cond.methodLink "PageMaker$Glue" (24 : Nat) ({ cls := "PageMaker$Totals", name := "addSpace", desc := "(J)V" } : Jvm.MethodName)) ∈ TB := tb_a2 235 rfl rfl
theorem tw_476 : (Jvm.Cond.selects "PageMaker$Kern" ({ cls := "PageMaker$Item", name := "addTo", desc := "(LPageMaker$Totals;LPageMaker$Frame;)V" } : Jvm.MethodName) ({ cls := "PageMaker$Kern", name := "addTo", desc := "(LPageMaker$Totals;LPageMaker$Frame;)V" } : Jvm.MethodName)) ∈ TB := tb_a2 236 rfl rfl
theorem tw_477 : (Jvm.Cond.instanceMethod ({ cls := "PageMaker$Kern", name := "addTo", desc := "(LPageMaker$Totals;LPageMaker$Frame;)V" } : Jvm.MethodName)) ∈ TB := tb_a2 237 rfl rfl
theorem tw_478 : (Jvm.Cond.code ({ cls := "PageMaker$Kern", name := "addTo", desc := "(LPageMaker$Totals;LPageMaker$Frame;)V" } : Jvm.MethodName) prog_7_method_2_code (3 : Nat) (Option.none : Option Jvm.ClassFile.FieldType)) ∈ TB := tb_a2 238 rfl rfl
theorem tw_479 : (Jvm.Cond.methodLink "PageMaker$Kern" (13 : Nat) ({ cls := "PageMaker$Totals", name := "addSpace", desc := "(J)V" } : Jvm.MethodName)) ∈ TB := tb_a2 239 rfl rfl
theorem tw_480 : (Jvm.Cond.selects "PageMaker$Penalty" ({ cls := "PageMaker$Item", name := "addTo", desc := "(LPageMaker$Totals;LPageMaker$Frame;)V" } : Jvm.MethodName) ({ cls := "PageMaker$Penalty", name := "addTo", desc := "(LPageMaker$Totals;LPageMaker$Frame;)V" } : Jvm.MethodName)) ∈ TB := tb_a3 0 rfl rfl
theorem tw_481 : (Jvm.Cond.instanceMethod ({ cls := "PageMaker$Penalty", name := "addTo", desc := "(LPageMaker$Totals;LPageMaker$Frame;)V" } : Jvm.MethodName)) ∈ TB := tb_a3 1 rfl rfl
theorem tw_482 : (Jvm.Cond.code ({ cls := "PageMaker$Penalty", name := "addTo", desc := "(LPageMaker$Totals;LPageMaker$Frame;)V" } : Jvm.MethodName) prog_9_method_2_code (3 : Nat) (Option.none : Option Jvm.ClassFile.FieldType)) ∈ TB := tb_a3 2 rfl rfl
theorem tw_483 : (Jvm.Cond.methodLink "PageMaker" (238 : Nat) ({ cls := "PageMaker$EndedPage", name := "<init>", desc := "(LPageMaker$OpenPage;LPageMaker$Totals;)V" } : Jvm.MethodName)) ∈ TB := tb_a3 3 rfl rfl
theorem tw_484 : (Jvm.Cond.instanceMethod ({ cls := "PageMaker$EndedPage", name := "<init>", desc := "(LPageMaker$OpenPage;LPageMaker$Totals;)V" } : Jvm.MethodName)) ∈ TB := tb_a3 4 rfl rfl
theorem tw_485 : (Jvm.Cond.code ({ cls := "PageMaker$EndedPage", name := "<init>", desc := "(LPageMaker$OpenPage;LPageMaker$Totals;)V" } : Jvm.MethodName) prog_3_method_1_code (3 : Nat) (Option.none : Option Jvm.ClassFile.FieldType)) ∈ TB := tb_a3 5 rfl rfl
theorem tw_486 : (Jvm.Cond.methodLink "PageMaker$EndedPage" (1 : Nat) ({ cls := "java/lang/Object", name := "<init>", desc := "()V" } : Jvm.MethodName)) ∈ TB := tb_a3 6 rfl rfl
theorem tw_487 : (Jvm.Cond.methodLink "PageMaker$EndedPage" (55 : Nat) ({ cls := "PageMaker$Totals", name := "greatestOrder", desc := "()I" } : Jvm.MethodName)) ∈ TB := tb_a3 7 rfl rfl
theorem tw_488 : (Jvm.Cond.fieldLink "PageMaker$EndedPage" (13 : Nat) "PageMaker$EndedPage" "frame" "LPageMaker$Frame;") ∈ TB := tb_a3 8 rfl rfl
theorem tw_489 : (Jvm.Cond.fieldLink "PageMaker" (142 : Nat) "PageMaker$EndedPage" "frame" "LPageMaker$Frame;") ∈ TB := tb_a3 9 rfl rfl
theorem tw_490 : (Jvm.Cond.fieldLink "PageMaker$EndedPage" (20 : Nat) "PageMaker$EndedPage" "first" "I") ∈ TB := tb_a3 10 rfl rfl
theorem tw_491 : (Jvm.Cond.fieldLink "PageMaker" (99 : Nat) "PageMaker$EndedPage" "first" "I") ∈ TB := tb_a3 11 rfl rfl
theorem tw_492 : (Jvm.Cond.fieldLink "PageMaker$EndedPage" (24 : Nat) "PageMaker$EndedPage" "bestItem" "I") ∈ TB := tb_a3 12 rfl rfl
theorem tw_493 : (Jvm.Cond.fieldLink "PageMaker" (105 : Nat) "PageMaker$EndedPage" "bestItem" "I") ∈ TB := tb_a3 13 rfl rfl
theorem tw_494 : (Jvm.Cond.fieldLink "PageMaker$EndedPage" (28 : Nat) "PageMaker$EndedPage" "cost" "I") ∈ TB := tb_a3 14 rfl rfl
theorem tw_495 : (Jvm.Cond.fieldLink "PageMaker" (108 : Nat) "PageMaker$EndedPage" "cost" "I") ∈ TB := tb_a3 15 rfl rfl
theorem tw_496 : (Jvm.Cond.fieldLink "PageMaker$EndedPage" (34 : Nat) "PageMaker$EndedPage" "badness" "I") ∈ TB := tb_a3 16 rfl rfl
theorem tw_497 : (Jvm.Cond.fieldLink "PageMaker" (121 : Nat) "PageMaker$EndedPage" "badness" "I") ∈ TB := tb_a3 17 rfl rfl
theorem tw_498 : (Jvm.Cond.fieldLink "PageMaker$EndedPage" (40 : Nat) "PageMaker$EndedPage" "endingItem" "I") ∈ TB := tb_a3 18 rfl rfl
theorem tw_499 : (Jvm.Cond.fieldLink "PageMaker" (124 : Nat) "PageMaker$EndedPage" "endingItem" "I") ∈ TB := tb_a3 19 rfl rfl
theorem tw_500 : (Jvm.Cond.fieldLink "PageMaker$EndedPage" (52 : Nat) "PageMaker$EndedPage" "excess" "J") ∈ TB := tb_a3 20 rfl rfl
theorem tw_501 : (Jvm.Cond.fieldLink "PageMaker" (111 : Nat) "PageMaker$EndedPage" "excess" "J") ∈ TB := tb_a3 21 rfl rfl
theorem tw_502 : (Jvm.Cond.fieldLink "PageMaker$EndedPage" (59 : Nat) "PageMaker$EndedPage" "order" "I") ∈ TB := tb_a3 22 rfl rfl
theorem tw_503 : (Jvm.Cond.fieldLink "PageMaker" (115 : Nat) "PageMaker$EndedPage" "order" "I") ∈ TB := tb_a3 23 rfl rfl
theorem tw_504 : (Jvm.Cond.fieldLink "PageMaker$EndedPage" (66 : Nat) "PageMaker$EndedPage" "total" "J") ∈ TB := tb_a3 24 rfl rfl
theorem tw_505 : (Jvm.Cond.fieldLink "PageMaker" (118 : Nat) "PageMaker$EndedPage" "total" "J") ∈ TB := tb_a3 25 rfl rfl
theorem tw_506 : (Jvm.Cond.laysFinal "PageMaker$EndedPage" "PageMaker$EndedPage" "frame" "LPageMaker$Frame;") ∈ TB := tb_a3 26 rfl rfl
theorem tw_507 : (Jvm.Cond.soleField "PageMaker$EndedPage" "frame") ∈ TB := tb_a3 27 rfl rfl
theorem tw_508 : (Jvm.Cond.laysFinal "PageMaker$EndedPage" "PageMaker$EndedPage" "first" "I") ∈ TB := tb_a3 28 rfl rfl
theorem tw_509 : (Jvm.Cond.soleField "PageMaker$EndedPage" "first") ∈ TB := tb_a3 29 rfl rfl
theorem tw_510 : (Jvm.Cond.laysFinal "PageMaker$EndedPage" "PageMaker$EndedPage" "bestItem" "I") ∈ TB := tb_a3 30 rfl rfl
theorem tw_511 : (Jvm.Cond.soleField "PageMaker$EndedPage" "bestItem") ∈ TB := tb_a3 31 rfl rfl
theorem tw_512 : (Jvm.Cond.laysFinal "PageMaker$EndedPage" "PageMaker$EndedPage" "cost" "I") ∈ TB := tb_a3 32 rfl rfl
theorem tw_513 : (Jvm.Cond.soleField "PageMaker$EndedPage" "cost") ∈ TB := tb_a3 33 rfl rfl
theorem tw_514 : (Jvm.Cond.laysFinal "PageMaker$EndedPage" "PageMaker$EndedPage" "badness" "I") ∈ TB := tb_a3 34 rfl rfl
theorem tw_515 : (Jvm.Cond.soleField "PageMaker$EndedPage" "badness") ∈ TB := tb_a3 35 rfl rfl
theorem tw_516 : (Jvm.Cond.laysFinal "PageMaker$EndedPage" "PageMaker$EndedPage" "endingItem" "I") ∈ TB := tb_a3 36 rfl rfl
theorem tw_517 : (Jvm.Cond.soleField "PageMaker$EndedPage" "endingItem") ∈ TB := tb_a3 37 rfl rfl
theorem tw_518 : (Jvm.Cond.laysFinal "PageMaker$EndedPage" "PageMaker$EndedPage" "excess" "J") ∈ TB := tb_a3 38 rfl rfl
theorem tw_519 : (Jvm.Cond.soleField "PageMaker$EndedPage" "excess") ∈ TB := tb_a3 39 rfl rfl
theorem tw_520 : (Jvm.Cond.laysFinal "PageMaker$EndedPage" "PageMaker$EndedPage" "order" "I") ∈ TB := tb_a3 40 rfl rfl
theorem tw_521 : (Jvm.Cond.soleField "PageMaker$EndedPage" "order") ∈ TB := tb_a3 41 rfl rfl
theorem tw_522 : (Jvm.Cond.laysFinal "PageMaker$EndedPage" "PageMaker$EndedPage" "total" "J") ∈ TB := tb_a3 42 rfl rfl
theorem tw_523 : (Jvm.Cond.soleField "PageMaker$EndedPage" "total") ∈ TB := tb_a3 43 rfl rfl
theorem tw_524 : (Jvm.Cond.superclass "PageMaker$EndedPage" "java/lang/Object") ∈ TB := tb_a3 44 rfl rfl
theorem tw_525 : (Jvm.Cond.methodLink "PageMaker" (212 : Nat) ({ cls := "PageMaker", name := "takeIn", desc := "(ILPageMaker$Item;)V" } : Jvm.MethodName)) ∈ TB := tb_a3 45 rfl rfl
theorem tw_527 : (Jvm.Cond.instanceMethod ({ cls := "PageMaker", name := "takeIn", desc := "(ILPageMaker$Item;)V" } : Jvm.MethodName)) ∈ TB := tb_a3 47 rfl rfl
theorem tw_528 : (Jvm.Cond.code ({ cls := "PageMaker", name := "takeIn", desc := "(ILPageMaker$Item;)V" } : Jvm.MethodName) prog_1_method_21_code (4 : Nat) (Option.none : Option Jvm.ClassFile.FieldType)) ∈ TB := tb_a3 48 rfl rfl
theorem tw_529 : (Jvm.Cond.methodLink "PageMaker" (230 : Nat) ({ cls := "PageMaker$OpenPage", name := "add", desc := "(LPageMaker$Item;)V" } : Jvm.MethodName)) ∈ TB := tb_a3 49 rfl rfl
theorem tw_530 : (Jvm.Cond.instanceMethod ({ cls := "PageMaker$OpenPage", name := "add", desc := "(LPageMaker$Item;)V" } : Jvm.MethodName)) ∈ TB := tb_a3 50 rfl rfl
theorem tw_531 : (Jvm.Cond.selects "PageMaker$OpenPage" ({ cls := "PageMaker$OpenPage", name := "add", desc := "(LPageMaker$Item;)V" } : Jvm.MethodName) ({ cls := "PageMaker$OpenPage", name := "add", desc := "(LPageMaker$Item;)V" } : Jvm.MethodName)) ∈ TB := tb_a3 51 rfl rfl
theorem tw_532 : (Jvm.Cond.code ({ cls := "PageMaker$OpenPage", name := "add", desc := "(LPageMaker$Item;)V" } : Jvm.MethodName) prog_8_method_4_code (2 : Nat) (Option.none : Option Jvm.ClassFile.FieldType)) ∈ TB := tb_a3 52 rfl rfl
theorem tw_533 : (Jvm.Cond.methodLink "PageMaker$OpenPage" (54 : Nat) ({ cls := "PageMaker$Item", name := "addTo", desc := "(LPageMaker$Totals;LPageMaker$Frame;)V" } : Jvm.MethodName)) ∈ TB := tb_a3 53 rfl rfl
theorem tw_534 : (Jvm.Cond.methodLink "PageMaker" (233 : Nat) ({ cls := "PageMaker$OpenPage", name := "begin", desc := "(ILPageMaker$Box;LPageMaker$Frame;)V" } : Jvm.MethodName)) ∈ TB := tb_a3 54 rfl rfl
theorem tw_535 : (Jvm.Cond.instanceMethod ({ cls := "PageMaker$OpenPage", name := "begin", desc := "(ILPageMaker$Box;LPageMaker$Frame;)V" } : Jvm.MethodName)) ∈ TB := tb_a3 55 rfl rfl
theorem tw_536 : (Jvm.Cond.selects "PageMaker$OpenPage" ({ cls := "PageMaker$OpenPage", name := "begin", desc := "(ILPageMaker$Box;LPageMaker$Frame;)V" } : Jvm.MethodName) ({ cls := "PageMaker$OpenPage", name := "begin", desc := "(ILPageMaker$Box;LPageMaker$Frame;)V" } : Jvm.MethodName)) ∈ TB := tb_a3 56 rfl rfl
theorem tw_537 : (Jvm.Cond.code ({ cls := "PageMaker$OpenPage", name := "begin", desc := "(ILPageMaker$Box;LPageMaker$Frame;)V" } : Jvm.MethodName) prog_8_method_3_code (4 : Nat) (Option.none : Option Jvm.ClassFile.FieldType)) ∈ TB := tb_a3 57 rfl rfl
theorem tw_538 : (Jvm.Cond.methodLink "PageMaker$OpenPage" (43 : Nat) ({ cls := "PageMaker$Totals", name := "addTopGlue", desc := "(LPageMaker$Frame;LPageMaker$Box;)V" } : Jvm.MethodName)) ∈ TB := tb_a3 58 rfl rfl
theorem tw_539 : (Jvm.Cond.methodLink "PageMaker$OpenPage" (47 : Nat) ({ cls := "PageMaker$OpenPage", name := "add", desc := "(LPageMaker$Item;)V" } : Jvm.MethodName)) ∈ TB := tb_a3 59 rfl rfl
theorem tw_540 : (Jvm.Cond.methodLink "PageMakerLaw" (66 : Nat) ({ cls := "PageMakerLaw", name := "glue", desc := "(LPageMaker;IIII[J)I" } : Jvm.MethodName)) ∈ TB := tb_a3 60 rfl rfl
theorem tw_541 : (Jvm.Cond.static ({ cls := "PageMakerLaw", name := "glue", desc := "(LPageMaker;IIII[J)I" } : Jvm.MethodName)) ∈ TB := tb_a3 61 rfl rfl
theorem tw_542 : (Jvm.Cond.codeWith ({ cls := "PageMakerLaw", name := "glue", desc := "(LPageMaker;IIII[J)I" } : Jvm.MethodName) method_5_code (7 : Nat) (Option.some Jvm.ClassFile.FieldType.int) [((0 : Nat), (14 : Nat), (17 : Nat), (13 : Nat)), ((0 : Nat), (14 : Nat), (21 : Nat), (19 : Nat))]) ∈ TB := tb_a3 62 rfl rfl
theorem tw_543 : (Jvm.Cond.methodLink "PageMakerLaw" (21 : Nat) ({ cls := "PageMaker", name := "glue", desc := "(IIII)I" } : Jvm.MethodName)) ∈ TB := tb_a3 63 rfl rfl
theorem tw_544 : (Jvm.Cond.instanceMethod ({ cls := "PageMaker", name := "glue", desc := "(IIII)I" } : Jvm.MethodName)) ∈ TB := tb_a3 64 rfl rfl
theorem tw_545 : (Jvm.Cond.selects "PageMaker" ({ cls := "PageMaker", name := "glue", desc := "(IIII)I" } : Jvm.MethodName) ({ cls := "PageMaker", name := "glue", desc := "(IIII)I" } : Jvm.MethodName)) ∈ TB := tb_a3 65 rfl rfl
theorem tw_546 : (Jvm.Cond.code ({ cls := "PageMaker", name := "glue", desc := "(IIII)I" } : Jvm.MethodName) prog_1_method_4_code (5 : Nat) (Option.some Jvm.ClassFile.FieldType.int)) ∈ TB := tb_a3 66 rfl rfl
theorem tw_549 : (Jvm.Cond.instantiable "PageMaker$Glue" (4 : Nat)) ∈ TB := tb_a3 69 rfl rfl
theorem tw_550 : (Jvm.Cond.methodLink "PageMaker" (74 : Nat) ({ cls := "PageMaker$Glue", name := "<init>", desc := "(IIII)V" } : Jvm.MethodName)) ∈ TB := tb_a3 70 rfl rfl
theorem tw_551 : (Jvm.Cond.instanceMethod ({ cls := "PageMaker$Glue", name := "<init>", desc := "(IIII)V" } : Jvm.MethodName)) ∈ TB := tb_a3 71 rfl rfl
theorem tw_552 : (Jvm.Cond.code ({ cls := "PageMaker$Glue", name := "<init>", desc := "(IIII)V" } : Jvm.MethodName) prog_5_method_1_code (5 : Nat) (Option.none : Option Jvm.ClassFile.FieldType)) ∈ TB := tb_a3 72 rfl rfl
theorem tw_554 : (Jvm.Cond.fieldLink "PageMaker$Glue" (9 : Nat) "PageMaker$Glue" "width" "I") ∈ TB := tb_a3 74 rfl rfl
theorem tw_555 : (Jvm.Cond.fieldLink "PageMaker$Glue" (15 : Nat) "PageMaker$Glue" "stretch" "I") ∈ TB := tb_a3 75 rfl rfl
theorem tw_556 : (Jvm.Cond.fieldLink "PageMaker$Glue" (18 : Nat) "PageMaker$Glue" "order" "I") ∈ TB := tb_a3 76 rfl rfl
theorem tw_557 : (Jvm.Cond.fieldLink "PageMaker$Glue" (21 : Nat) "PageMaker$Glue" "shrink" "I") ∈ TB := tb_a3 77 rfl rfl
theorem tw_558 : (Jvm.Cond.laysFinal "PageMaker$Glue" "PageMaker$Glue" "width" "I") ∈ TB := tb_a3 78 rfl rfl
theorem tw_559 : (Jvm.Cond.soleField "PageMaker$Glue" "width") ∈ TB := tb_a3 79 rfl rfl
theorem tw_560 : (Jvm.Cond.laysFinal "PageMaker$Glue" "PageMaker$Glue" "stretch" "I") ∈ TB := tb_a3 80 rfl rfl
theorem tw_561 : (Jvm.Cond.soleField "PageMaker$Glue" "stretch") ∈ TB := tb_a3 81 rfl rfl
theorem tw_562 : (Jvm.Cond.laysFinal "PageMaker$Glue" "PageMaker$Glue" "order" "I") ∈ TB := tb_a3 82 rfl rfl
theorem tw_563 : (Jvm.Cond.soleField "PageMaker$Glue" "order") ∈ TB := tb_a3 83 rfl rfl
theorem tw_564 : (Jvm.Cond.laysFinal "PageMaker$Glue" "PageMaker$Glue" "shrink" "I") ∈ TB := tb_a3 84 rfl rfl
theorem tw_565 : (Jvm.Cond.soleField "PageMaker$Glue" "shrink") ∈ TB := tb_a3 85 rfl rfl
theorem tw_566 : (Jvm.Cond.superclass "PageMaker$Glue" "PageMaker$Item") ∈ TB := tb_a3 86 rfl rfl
theorem tw_567 : (Jvm.Cond.methodLink "PageMakerLaw" (70 : Nat) ({ cls := "PageMakerLaw", name := "kern", desc := "(LPageMaker;I[J)I" } : Jvm.MethodName)) ∈ TB := tb_a3 87 rfl rfl
theorem tw_568 : (Jvm.Cond.static ({ cls := "PageMakerLaw", name := "kern", desc := "(LPageMaker;I[J)I" } : Jvm.MethodName)) ∈ TB := tb_a3 88 rfl rfl
theorem tw_569 : (Jvm.Cond.codeWith ({ cls := "PageMakerLaw", name := "kern", desc := "(LPageMaker;I[J)I" } : Jvm.MethodName) method_6_code (4 : Nat) (Option.some Jvm.ClassFile.FieldType.int) [((0 : Nat), (9 : Nat), (12 : Nat), (13 : Nat)), ((0 : Nat), (9 : Nat), (15 : Nat), (19 : Nat))]) ∈ TB := tb_a3 89 rfl rfl
theorem tw_570 : (Jvm.Cond.methodLink "PageMakerLaw" (25 : Nat) ({ cls := "PageMaker", name := "kern", desc := "(I)I" } : Jvm.MethodName)) ∈ TB := tb_a3 90 rfl rfl
theorem tw_571 : (Jvm.Cond.instanceMethod ({ cls := "PageMaker", name := "kern", desc := "(I)I" } : Jvm.MethodName)) ∈ TB := tb_a3 91 rfl rfl
theorem tw_572 : (Jvm.Cond.selects "PageMaker" ({ cls := "PageMaker", name := "kern", desc := "(I)I" } : Jvm.MethodName) ({ cls := "PageMaker", name := "kern", desc := "(I)I" } : Jvm.MethodName)) ∈ TB := tb_a3 92 rfl rfl
theorem tw_573 : (Jvm.Cond.code ({ cls := "PageMaker", name := "kern", desc := "(I)I" } : Jvm.MethodName) prog_1_method_5_code (2 : Nat) (Option.some Jvm.ClassFile.FieldType.int)) ∈ TB := tb_a3 93 rfl rfl
theorem tw_575 : (Jvm.Cond.instantiable "PageMaker$Kern" (1 : Nat)) ∈ TB := tb_a3 95 rfl rfl
theorem tw_576 : (Jvm.Cond.methodLink "PageMaker" (81 : Nat) ({ cls := "PageMaker$Kern", name := "<init>", desc := "(I)V" } : Jvm.MethodName)) ∈ TB := tb_a3 96 rfl rfl
theorem tw_577 : (Jvm.Cond.instanceMethod ({ cls := "PageMaker$Kern", name := "<init>", desc := "(I)V" } : Jvm.MethodName)) ∈ TB := tb_a3 97 rfl rfl
theorem tw_578 : (Jvm.Cond.code ({ cls := "PageMaker$Kern", name := "<init>", desc := "(I)V" } : Jvm.MethodName) prog_7_method_1_code (2 : Nat) (Option.none : Option Jvm.ClassFile.FieldType)) ∈ TB := tb_a3 98 rfl rfl
theorem tw_580 : (Jvm.Cond.fieldLink "PageMaker$Kern" (7 : Nat) "PageMaker$Kern" "width" "I") ∈ TB := tb_a3 100 rfl rfl
theorem tw_581 : (Jvm.Cond.laysFinal "PageMaker$Kern" "PageMaker$Kern" "width" "I") ∈ TB := tb_a3 101 rfl rfl
theorem tw_582 : (Jvm.Cond.soleField "PageMaker$Kern" "width") ∈ TB := tb_a3 102 rfl rfl
theorem tw_583 : (Jvm.Cond.superclass "PageMaker$Kern" "PageMaker$Item") ∈ TB := tb_a3 103 rfl rfl
theorem tw_584 : (Jvm.Cond.methodLink "PageMakerLaw" (74 : Nat) ({ cls := "PageMakerLaw", name := "penalty", desc := "(LPageMaker;I[J)I" } : Jvm.MethodName)) ∈ TB := tb_a3 104 rfl rfl
theorem tw_585 : (Jvm.Cond.static ({ cls := "PageMakerLaw", name := "penalty", desc := "(LPageMaker;I[J)I" } : Jvm.MethodName)) ∈ TB := tb_a3 105 rfl rfl
theorem tw_586 : (Jvm.Cond.codeWith ({ cls := "PageMakerLaw", name := "penalty", desc := "(LPageMaker;I[J)I" } : Jvm.MethodName) method_7_code (4 : Nat) (Option.some Jvm.ClassFile.FieldType.int) [((0 : Nat), (9 : Nat), (12 : Nat), (13 : Nat)), ((0 : Nat), (9 : Nat), (15 : Nat), (19 : Nat))]) ∈ TB := tb_a3 106 rfl rfl
theorem tw_587 : (Jvm.Cond.methodLink "PageMakerLaw" (29 : Nat) ({ cls := "PageMaker", name := "penalty", desc := "(I)I" } : Jvm.MethodName)) ∈ TB := tb_a3 107 rfl rfl
theorem tw_588 : (Jvm.Cond.instanceMethod ({ cls := "PageMaker", name := "penalty", desc := "(I)I" } : Jvm.MethodName)) ∈ TB := tb_a3 108 rfl rfl
theorem tw_589 : (Jvm.Cond.selects "PageMaker" ({ cls := "PageMaker", name := "penalty", desc := "(I)I" } : Jvm.MethodName) ({ cls := "PageMaker", name := "penalty", desc := "(I)I" } : Jvm.MethodName)) ∈ TB := tb_a3 109 rfl rfl
theorem tw_590 : (Jvm.Cond.code ({ cls := "PageMaker", name := "penalty", desc := "(I)I" } : Jvm.MethodName) prog_1_method_6_code (2 : Nat) (Option.some Jvm.ClassFile.FieldType.int)) ∈ TB := tb_a3 110 rfl rfl
theorem tw_591 : (Jvm.Cond.constant "PageMaker" (84 : Nat) (-100000 : Int32)) ∈ TB := tb_a3 111 rfl rfl
theorem tw_593 : (Jvm.Cond.instantiable "PageMaker$Penalty" (1 : Nat)) ∈ TB := tb_a3 113 rfl rfl
theorem tw_594 : (Jvm.Cond.methodLink "PageMaker" (90 : Nat) ({ cls := "PageMaker$Penalty", name := "<init>", desc := "(I)V" } : Jvm.MethodName)) ∈ TB := tb_a3 114 rfl rfl
theorem tw_595 : (Jvm.Cond.instanceMethod ({ cls := "PageMaker$Penalty", name := "<init>", desc := "(I)V" } : Jvm.MethodName)) ∈ TB := tb_a3 115 rfl rfl
theorem tw_596 : (Jvm.Cond.code ({ cls := "PageMaker$Penalty", name := "<init>", desc := "(I)V" } : Jvm.MethodName) prog_9_method_1_code (2 : Nat) (Option.none : Option Jvm.ClassFile.FieldType)) ∈ TB := tb_a3 116 rfl rfl
theorem tw_598 : (Jvm.Cond.fieldLink "PageMaker$Penalty" (7 : Nat) "PageMaker$Penalty" "p" "I") ∈ TB := tb_a3 118 rfl rfl
theorem tw_599 : (Jvm.Cond.fieldLink "PageMaker" (220 : Nat) "PageMaker$Penalty" "p" "I") ∈ TB := tb_a3 119 rfl rfl
theorem tw_600 : (Jvm.Cond.laysFinal "PageMaker$Penalty" "PageMaker$Penalty" "p" "I") ∈ TB := tb_a3 120 rfl rfl
theorem tw_601 : (Jvm.Cond.soleField "PageMaker$Penalty" "p") ∈ TB := tb_a3 121 rfl rfl
theorem tw_602 : (Jvm.Cond.superclass "PageMaker$Penalty" "PageMaker$Item") ∈ TB := tb_a3 122 rfl rfl
theorem tw_603 : (Jvm.Cond.methodLink "PageMakerLaw" (85 : Nat) ({ cls := "PageMakerLaw", name := "page", desc := "(LPageMaker;II[J)I" } : Jvm.MethodName)) ∈ TB := tb_a3 123 rfl rfl
theorem tw_604 : (Jvm.Cond.static ({ cls := "PageMakerLaw", name := "page", desc := "(LPageMaker;II[J)I" } : Jvm.MethodName)) ∈ TB := tb_a3 124 rfl rfl
theorem tw_605 : (Jvm.Cond.codeWith ({ cls := "PageMakerLaw", name := "page", desc := "(LPageMaker;II[J)I" } : Jvm.MethodName) method_8_code (5 : Nat) (Option.some Jvm.ClassFile.FieldType.int) [((0 : Nat), (9 : Nat), (12 : Nat), (36 : Nat))]) ∈ TB := tb_a3 125 rfl rfl
theorem tw_606 : (Jvm.Cond.classLink "PageMakerLaw" (36 : Nat) "java/lang/IndexOutOfBoundsException") ∈ TB := tb_a3 126 rfl rfl
theorem tw_607 : (Jvm.Cond.methodLink "PageMakerLaw" (32 : Nat) ({ cls := "PageMaker", name := "page", desc := "(II)J" } : Jvm.MethodName)) ∈ TB := tb_a3 127 rfl rfl
theorem tw_608 : (Jvm.Cond.instanceMethod ({ cls := "PageMaker", name := "page", desc := "(II)J" } : Jvm.MethodName)) ∈ TB := tb_a3 128 rfl rfl
theorem tw_609 : (Jvm.Cond.selects "PageMaker" ({ cls := "PageMaker", name := "page", desc := "(II)J" } : Jvm.MethodName) ({ cls := "PageMaker", name := "page", desc := "(II)J" } : Jvm.MethodName)) ∈ TB := tb_a3 129 rfl rfl
theorem tw_610 : (Jvm.Cond.code ({ cls := "PageMaker", name := "page", desc := "(II)J" } : Jvm.MethodName) prog_1_method_9_code (4 : Nat) (Option.some Jvm.ClassFile.FieldType.long)) ∈ TB := tb_a3 130 rfl rfl
theorem tw_611 : (Jvm.Cond.methodLink "PageMaker" (95 : Nat) ({ cls := "PageMaker", name := "endedPage", desc := "(I)LPageMaker$EndedPage;" } : Jvm.MethodName)) ∈ TB := tb_a3 131 rfl rfl
theorem tw_613 : (Jvm.Cond.instanceMethod ({ cls := "PageMaker", name := "endedPage", desc := "(I)LPageMaker$EndedPage;" } : Jvm.MethodName)) ∈ TB := tb_a3 133 rfl rfl
theorem tw_614 : (Jvm.Cond.code ({ cls := "PageMaker", name := "endedPage", desc := "(I)LPageMaker$EndedPage;" } : Jvm.MethodName) prog_1_method_16_code (2 : Nat) (Option.some (Jvm.ClassFile.FieldType.object "PageMaker$EndedPage"))) ∈ TB := tb_a3 134 rfl rfl
theorem tw_615 : (Jvm.Cond.classLink "PageMaker" (127 : Nat) "java/lang/IndexOutOfBoundsException") ∈ TB := tb_a3 135 rfl rfl
theorem tw_616 : (Jvm.Cond.instantiable "java/lang/IndexOutOfBoundsException" (6 : Nat)) ∈ TB := tb_a3 136 rfl rfl
theorem tw_618 : (Jvm.Cond.selects "java/lang/IndexOutOfBoundsException" ({ cls := "java/lang/Throwable", name := "fillInStackTrace", desc := "(I)Ljava/lang/Throwable;" } : Jvm.MethodName) ({ cls := "java/lang/Throwable", name := "fillInStackTrace", desc := "(I)Ljava/lang/Throwable;" } : Jvm.MethodName)) ∈ TB := tb_a3 138 rfl rfl
theorem tw_619 : (Jvm.Cond.lays "java/lang/IndexOutOfBoundsException" "java/lang/Throwable" "cause" "Ljava/lang/Throwable;") ∈ TB := tb_a3 139 rfl rfl
theorem tw_620 : (Jvm.Cond.lays "java/lang/IndexOutOfBoundsException" "java/lang/Throwable" "stackTrace" "[Ljava/lang/StackTraceElement;") ∈ TB := tb_a3 140 rfl rfl
theorem tw_621 : (Jvm.Cond.lays "java/lang/IndexOutOfBoundsException" "java/lang/Throwable" "suppressedExceptions" "Ljava/util/List;") ∈ TB := tb_a3 141 rfl rfl
theorem tw_622 : (Jvm.Cond.lays "java/lang/IndexOutOfBoundsException" "java/lang/Throwable" "detailMessage" "Ljava/lang/String;") ∈ TB := tb_a3 142 rfl rfl
theorem tw_623 : (Jvm.Cond.lays "java/lang/IndexOutOfBoundsException" "java/lang/Throwable" "backtrace" "Ljava/lang/Object;") ∈ TB := tb_a3 143 rfl rfl
theorem tw_625 : (Jvm.Cond.methodLink "PageMaker" (131 : Nat) ({ cls := "java/lang/IndexOutOfBoundsException", name := "<init>", desc := "(Ljava/lang/String;)V" } : Jvm.MethodName)) ∈ TB := tb_a3 145 rfl rfl
theorem tw_626 : (Jvm.Cond.instanceMethod ({ cls := "java/lang/IndexOutOfBoundsException", name := "<init>", desc := "(Ljava/lang/String;)V" } : Jvm.MethodName)) ∈ TB := tb_a3 146 rfl rfl
theorem tw_627 : (Jvm.Cond.code ({ cls := "java/lang/IndexOutOfBoundsException", name := "<init>", desc := "(Ljava/lang/String;)V" } : Jvm.MethodName) prog_17_method_2_code (2 : Nat) (Option.none : Option Jvm.ClassFile.FieldType)) ∈ TB := tb_a3 147 rfl rfl
theorem tw_628 : (Jvm.Cond.methodLink "java/lang/IndexOutOfBoundsException" (7 : Nat) ({ cls := "java/lang/RuntimeException", name := "<init>", desc := "(Ljava/lang/String;)V" } : Jvm.MethodName)) ∈ TB := tb_a3 148 rfl rfl
theorem tw_629 : (Jvm.Cond.lays "java/lang/IndexOutOfBoundsException" "java/lang/Throwable" "depth" "I") ∈ TB := tb_a3 149 rfl rfl
theorem tw_630 : (Jvm.Cond.superclass "java/lang/IndexOutOfBoundsException" "java/lang/RuntimeException") ∈ TB := tb_a3 150 rfl rfl
theorem tw_632 : (Jvm.Cond.methodLink "PageMakerLaw" (89 : Nat) ({ cls := "PageMakerLaw", name := "stands", desc := "(LPageMaker;II[J)I" } : Jvm.MethodName)) ∈ TB := tb_a3 152 rfl rfl
theorem tw_633 : (Jvm.Cond.static ({ cls := "PageMakerLaw", name := "stands", desc := "(LPageMaker;II[J)I" } : Jvm.MethodName)) ∈ TB := tb_a3 153 rfl rfl
theorem tw_634 : (Jvm.Cond.codeWith ({ cls := "PageMakerLaw", name := "stands", desc := "(LPageMaker;II[J)I" } : Jvm.MethodName) method_9_code (5 : Nat) (Option.some Jvm.ClassFile.FieldType.int) [((0 : Nat), (9 : Nat), (12 : Nat), (36 : Nat))]) ∈ TB := tb_a3 154 rfl rfl
theorem tw_635 : (Jvm.Cond.methodLink "PageMakerLaw" (38 : Nat) ({ cls := "PageMaker", name := "stands", desc := "(II)J" } : Jvm.MethodName)) ∈ TB := tb_a3 155 rfl rfl
theorem tw_636 : (Jvm.Cond.instanceMethod ({ cls := "PageMaker", name := "stands", desc := "(II)J" } : Jvm.MethodName)) ∈ TB := tb_a3 156 rfl rfl
theorem tw_637 : (Jvm.Cond.selects "PageMaker" ({ cls := "PageMaker", name := "stands", desc := "(II)J" } : Jvm.MethodName) ({ cls := "PageMaker", name := "stands", desc := "(II)J" } : Jvm.MethodName)) ∈ TB := tb_a3 157 rfl rfl
theorem tw_638 : (Jvm.Cond.code ({ cls := "PageMaker", name := "stands", desc := "(II)J" } : Jvm.MethodName) prog_1_method_10_code (6 : Nat) (Option.some Jvm.ClassFile.FieldType.long)) ∈ TB := tb_a3 158 rfl rfl
theorem tw_639 : (Jvm.Cond.methodLink "PageMaker" (135 : Nat) ({ cls := "PageMaker$EndedPage", name := "holds", desc := "(I)Z" } : Jvm.MethodName)) ∈ TB := tb_a3 159 rfl rfl
theorem tw_640 : (Jvm.Cond.instanceMethod ({ cls := "PageMaker$EndedPage", name := "holds", desc := "(I)Z" } : Jvm.MethodName)) ∈ TB := tb_a3 160 rfl rfl
theorem tw_641 : (Jvm.Cond.selects "PageMaker$EndedPage" ({ cls := "PageMaker$EndedPage", name := "holds", desc := "(I)Z" } : Jvm.MethodName) ({ cls := "PageMaker$EndedPage", name := "holds", desc := "(I)Z" } : Jvm.MethodName)) ∈ TB := tb_a3 161 rfl rfl
theorem tw_642 : (Jvm.Cond.code ({ cls := "PageMaker$EndedPage", name := "holds", desc := "(I)Z" } : Jvm.MethodName) prog_3_method_2_code (2 : Nat) (Option.some Jvm.ClassFile.FieldType.boolean)) ∈ TB := tb_a3 162 rfl rfl
theorem tw_643 : (Jvm.Cond.methodLink "PageMaker" (160 : Nat) ({ cls := "PageMaker$EndedPage", name := "shareOf", desc := "(LPageMaker$Totals;)J" } : Jvm.MethodName)) ∈ TB := tb_a3 163 rfl rfl
theorem tw_644 : (Jvm.Cond.instanceMethod ({ cls := "PageMaker$EndedPage", name := "shareOf", desc := "(LPageMaker$Totals;)J" } : Jvm.MethodName)) ∈ TB := tb_a3 164 rfl rfl
theorem tw_645 : (Jvm.Cond.selects "PageMaker$EndedPage" ({ cls := "PageMaker$EndedPage", name := "shareOf", desc := "(LPageMaker$Totals;)J" } : Jvm.MethodName) ({ cls := "PageMaker$EndedPage", name := "shareOf", desc := "(LPageMaker$Totals;)J" } : Jvm.MethodName)) ∈ TB := tb_a3 165 rfl rfl
theorem tw_646 : (Jvm.Cond.code ({ cls := "PageMaker$EndedPage", name := "shareOf", desc := "(LPageMaker$Totals;)J" } : Jvm.MethodName) prog_3_method_3_code (2 : Nat) (Option.some Jvm.ClassFile.FieldType.long)) ∈ TB := tb_a3 166 rfl rfl
theorem tw_648 : (Jvm.Cond.static ({ cls := "PageMaker", name := "proportion", desc := "(JJJ)J" } : Jvm.MethodName)) ∈ TB := tb_a3 168 rfl rfl
theorem tw_649 : (Jvm.Cond.code ({ cls := "PageMaker", name := "proportion", desc := "(JJJ)J" } : Jvm.MethodName) prog_1_method_26_code (13 : Nat) (Option.some Jvm.ClassFile.FieldType.long)) ∈ TB := tb_a3 169 rfl rfl
theorem tw_650 : (Jvm.Cond.constantLong "PageMaker" (262 : Nat) (65535 : Int64)) ∈ TB := tb_a3 170 rfl rfl
theorem tw_651 : (Jvm.Cond.constantLong "PageMaker" (264 : Nat) (2 : Int64)) ∈ TB := tb_a3 171 rfl rfl
theorem tw_652 : (Jvm.Cond.methodLink "PageMaker$EndedPage" (78 : Nat) ({ cls := "java/lang/Math", name := "min", desc := "(JJ)J" } : Jvm.MethodName)) ∈ TB := tb_a3 172 rfl rfl
theorem tw_653 : (Jvm.Cond.static ({ cls := "java/lang/Math", name := "min", desc := "(JJ)J" } : Jvm.MethodName)) ∈ TB := tb_a3 173 rfl rfl
theorem tw_654 : (Jvm.Cond.code ({ cls := "java/lang/Math", name := "min", desc := "(JJ)J" } : Jvm.MethodName) prog_19_method_70_code (4 : Nat) (Option.some Jvm.ClassFile.FieldType.long)) ∈ TB := tb_a3 174 rfl rfl
theorem tw_656 : (Jvm.Cond.methodLink "PageMakerLaw" (92 : Nat) ({ cls := "PageMakerLaw", name := "where", desc := "(LPageMaker;I[J)I" } : Jvm.MethodName)) ∈ TB := tb_a3 176 rfl rfl
theorem tw_657 : (Jvm.Cond.static ({ cls := "PageMakerLaw", name := "where", desc := "(LPageMaker;I[J)I" } : Jvm.MethodName)) ∈ TB := tb_a3 177 rfl rfl
theorem tw_658 : (Jvm.Cond.codeWith ({ cls := "PageMakerLaw", name := "where", desc := "(LPageMaker;I[J)I" } : Jvm.MethodName) method_10_code (4 : Nat) (Option.some Jvm.ClassFile.FieldType.int) [((0 : Nat), (9 : Nat), (12 : Nat), (36 : Nat))]) ∈ TB := tb_a3 178 rfl rfl
theorem tw_659 : (Jvm.Cond.methodLink "PageMakerLaw" (41 : Nat) ({ cls := "PageMaker", name := "where", desc := "(I)I" } : Jvm.MethodName)) ∈ TB := tb_a3 179 rfl rfl
theorem tw_660 : (Jvm.Cond.instanceMethod ({ cls := "PageMaker", name := "where", desc := "(I)I" } : Jvm.MethodName)) ∈ TB := tb_a3 180 rfl rfl
theorem tw_661 : (Jvm.Cond.selects "PageMaker" ({ cls := "PageMaker", name := "where", desc := "(I)I" } : Jvm.MethodName) ({ cls := "PageMaker", name := "where", desc := "(I)I" } : Jvm.MethodName)) ∈ TB := tb_a3 181 rfl rfl
theorem tw_662 : (Jvm.Cond.code ({ cls := "PageMaker", name := "where", desc := "(I)I" } : Jvm.MethodName) prog_1_method_11_code (3 : Nat) (Option.some Jvm.ClassFile.FieldType.int)) ∈ TB := tb_a3 182 rfl rfl
theorem tw_664 : (Jvm.Cond.methodLink "PageMakerLaw" (95 : Nat) ({ cls := "PageMakerLaw", name := "open", desc := "(LPageMaker;I[J)I" } : Jvm.MethodName)) ∈ TB := tb_a3 184 rfl rfl
theorem tw_665 : (Jvm.Cond.static ({ cls := "PageMakerLaw", name := "open", desc := "(LPageMaker;I[J)I" } : Jvm.MethodName)) ∈ TB := tb_a3 185 rfl rfl
theorem tw_666 : (Jvm.Cond.codeWith ({ cls := "PageMakerLaw", name := "open", desc := "(LPageMaker;I[J)I" } : Jvm.MethodName) method_11_code (4 : Nat) (Option.some Jvm.ClassFile.FieldType.int) [((0 : Nat), (8 : Nat), (11 : Nat), (36 : Nat))]) ∈ TB := tb_a3 186 rfl rfl
theorem tw_667 : (Jvm.Cond.methodLink "PageMakerLaw" (44 : Nat) ({ cls := "PageMaker", name := "open", desc := "(I)J" } : Jvm.MethodName)) ∈ TB := tb_a3 187 rfl rfl
theorem tw_668 : (Jvm.Cond.instanceMethod ({ cls := "PageMaker", name := "open", desc := "(I)J" } : Jvm.MethodName)) ∈ TB := tb_a3 188 rfl rfl
theorem tw_669 : (Jvm.Cond.selects "PageMaker" ({ cls := "PageMaker", name := "open", desc := "(I)J" } : Jvm.MethodName) ({ cls := "PageMaker", name := "open", desc := "(I)J" } : Jvm.MethodName)) ∈ TB := tb_a3 189 rfl rfl
theorem tw_670 : (Jvm.Cond.code ({ cls := "PageMaker", name := "open", desc := "(I)J" } : Jvm.MethodName) prog_1_method_12_code (2 : Nat) (Option.some Jvm.ClassFile.FieldType.long)) ∈ TB := tb_a3 190 rfl rfl
theorem tw_672 : (Jvm.Cond.classLink "PageMakerLaw" (49 : Nat) "PageMakerModel") ∈ TB := tb_a3 192 rfl rfl
theorem tw_673 : (Jvm.Cond.instantiable "PageMakerModel" (26 : Nat)) ∈ TB := tb_a3 193 rfl rfl
theorem tw_674 : (Jvm.Cond.methodLink "PageMakerLaw" (51 : Nat) ({ cls := "PageMakerModel", name := "<init>", desc := "()V" } : Jvm.MethodName)) ∈ TB := tb_a3 194 rfl rfl
theorem tw_675 : (Jvm.Cond.instanceMethod ({ cls := "PageMakerModel", name := "<init>", desc := "()V" } : Jvm.MethodName)) ∈ TB := tb_a3 195 rfl rfl
theorem tw_676 : (Jvm.Cond.code ({ cls := "PageMakerModel", name := "<init>", desc := "()V" } : Jvm.MethodName) prog_12_method_1_code (1 : Nat) (Option.none : Option Jvm.ClassFile.FieldType)) ∈ TB := tb_a3 196 rfl rfl
theorem tw_677 : (Jvm.Cond.methodLink "PageMakerModel" (1 : Nat) ({ cls := "java/lang/Object", name := "<init>", desc := "()V" } : Jvm.MethodName)) ∈ TB := tb_a3 197 rfl rfl
theorem tw_678 : (Jvm.Cond.constant "PageMakerModel" (25 : Nat) (42152922 : Int32)) ∈ TB := tb_a3 198 rfl rfl
theorem tw_679 : (Jvm.Cond.constant "PageMakerModel" (30 : Nat) (655360 : Int32)) ∈ TB := tb_a3 199 rfl rfl
theorem tw_680 : (Jvm.Cond.constant "PageMakerModel" (34 : Nat) (262144 : Int32)) ∈ TB := tb_a3 200 rfl rfl
theorem tw_681 : (Jvm.Cond.constant "PageMakerModel" (66 : Nat) (1073741823 : Int32)) ∈ TB := tb_a3 201 rfl rfl
theorem tw_682 : (Jvm.Cond.fieldLink "PageMakerModel" (70 : Nat) "PageMakerModel" "thrown" "I") ∈ TB := tb_a3 202 rfl rfl
theorem tw_683 : (Jvm.Cond.fieldLink "PageMakerModel" (7 : Nat) "PageMakerModel" "kinds" "[I") ∈ TB := tb_a3 203 rfl rfl
theorem tw_684 : (Jvm.Cond.fieldLink "PageMakerModel" (13 : Nat) "PageMakerModel" "one" "[I") ∈ TB := tb_a3 204 rfl rfl
theorem tw_685 : (Jvm.Cond.fieldLink "PageMakerModel" (16 : Nat) "PageMakerModel" "two" "[I") ∈ TB := tb_a3 205 rfl rfl
theorem tw_686 : (Jvm.Cond.fieldLink "PageMakerModel" (19 : Nat) "PageMakerModel" "three" "[I") ∈ TB := tb_a3 206 rfl rfl
theorem tw_687 : (Jvm.Cond.fieldLink "PageMakerModel" (22 : Nat) "PageMakerModel" "order" "[I") ∈ TB := tb_a3 207 rfl rfl
theorem tw_688 : (Jvm.Cond.fieldLink "PageMakerModel" (124 : Nat) "PageMakerModel" "count" "I") ∈ TB := tb_a3 208 rfl rfl
theorem tw_689 : (Jvm.Cond.fieldLink "PageMakerModel" (26 : Nat) "PageMakerModel" "height" "I") ∈ TB := tb_a3 209 rfl rfl
theorem tw_690 : (Jvm.Cond.fieldLink "PageMakerModel" (31 : Nat) "PageMakerModel" "top" "I") ∈ TB := tb_a3 210 rfl rfl
theorem tw_691 : (Jvm.Cond.fieldLink "PageMakerModel" (35 : Nat) "PageMakerModel" "greatest" "I") ∈ TB := tb_a3 211 rfl rfl
theorem tw_692 : (Jvm.Cond.fieldLink "PageMakerModel" (38 : Nat) "PageMakerModel" "heights" "[I") ∈ TB := tb_a3 212 rfl rfl
theorem tw_693 : (Jvm.Cond.fieldLink "PageMakerModel" (41 : Nat) "PageMakerModel" "tops" "[I") ∈ TB := tb_a3 213 rfl rfl
theorem tw_694 : (Jvm.Cond.fieldLink "PageMakerModel" (44 : Nat) "PageMakerModel" "depths" "[I") ∈ TB := tb_a3 214 rfl rfl
theorem tw_695 : (Jvm.Cond.fieldLink "PageMakerModel" (47 : Nat) "PageMakerModel" "firsts" "[I") ∈ TB := tb_a3 215 rfl rfl
theorem tw_696 : (Jvm.Cond.fieldLink "PageMakerModel" (50 : Nat) "PageMakerModel" "ends" "[I") ∈ TB := tb_a3 216 rfl rfl
theorem tw_697 : (Jvm.Cond.fieldLink "PageMakerModel" (53 : Nat) "PageMakerModel" "costs" "[I") ∈ TB := tb_a3 217 rfl rfl
theorem tw_698 : (Jvm.Cond.fieldLink "PageMakerModel" (56 : Nat) "PageMakerModel" "enders" "[I") ∈ TB := tb_a3 218 rfl rfl
theorem tw_699 : (Jvm.Cond.fieldLink "PageMakerModel" (134 : Nat) "PageMakerModel" "pages" "I") ∈ TB := tb_a3 219 rfl rfl
theorem tw_700 : (Jvm.Cond.fieldLink "PageMakerModel" (131 : Nat) "PageMakerModel" "begin" "I") ∈ TB := tb_a3 220 rfl rfl
theorem tw_701 : (Jvm.Cond.fieldLink "PageMakerModel" (127 : Nat) "PageMakerModel" "isOpen" "Z") ∈ TB := tb_a3 221 rfl rfl
theorem tw_702 : (Jvm.Cond.fieldLink "PageMakerModel" (63 : Nat) "PageMakerModel" "best" "I") ∈ TB := tb_a3 222 rfl rfl
theorem tw_703 : (Jvm.Cond.fieldLink "PageMakerModel" (67 : Nat) "PageMakerModel" "least" "I") ∈ TB := tb_a3 223 rfl rfl
theorem tw_704 : (Jvm.Cond.fieldLink "PageMakerModel" (81 : Nat) "PageMakerModel" "length" "J") ∈ TB := tb_a3 224 rfl rfl
theorem tw_705 : (Jvm.Cond.fieldLink "PageMakerModel" (85 : Nat) "PageMakerModel" "depth" "J") ∈ TB := tb_a3 225 rfl rfl
theorem tw_706 : (Jvm.Cond.fieldLink "PageMakerModel" (59 : Nat) "PageMakerModel" "stretch" "[J") ∈ TB := tb_a3 226 rfl rfl
theorem tw_707 : (Jvm.Cond.fieldLink "PageMakerModel" (88 : Nat) "PageMakerModel" "shrink" "J") ∈ TB := tb_a3 227 rfl rfl
theorem tw_708 : (Jvm.Cond.lays "PageMakerModel" "PageMakerModel" "thrown" "I") ∈ TB := tb_a3 228 rfl rfl
theorem tw_709 : (Jvm.Cond.soleField "PageMakerModel" "thrown") ∈ TB := tb_a3 229 rfl rfl
theorem tw_710 : (Jvm.Cond.laysFinal "PageMakerModel" "PageMakerModel" "kinds" "[I") ∈ TB := tb_a3 230 rfl rfl
theorem tw_711 : (Jvm.Cond.soleField "PageMakerModel" "kinds") ∈ TB := tb_a3 231 rfl rfl
theorem tw_712 : (Jvm.Cond.laysFinal "PageMakerModel" "PageMakerModel" "one" "[I") ∈ TB := tb_a3 232 rfl rfl
theorem tw_713 : (Jvm.Cond.soleField "PageMakerModel" "one") ∈ TB := tb_a3 233 rfl rfl
theorem tw_714 : (Jvm.Cond.laysFinal "PageMakerModel" "PageMakerModel" "two" "[I") ∈ TB := tb_a3 234 rfl rfl
theorem tw_715 : (Jvm.Cond.soleField "PageMakerModel" "two") ∈ TB := tb_a3 235 rfl rfl
theorem tw_716 : (Jvm.Cond.laysFinal "PageMakerModel" "PageMakerModel" "three" "[I") ∈ TB := tb_a3 236 rfl rfl
theorem tw_717 : (Jvm.Cond.soleField "PageMakerModel" "three") ∈ TB := tb_a3 237 rfl rfl
theorem tw_718 : (Jvm.Cond.laysFinal "PageMakerModel" "PageMakerModel" "order" "[I") ∈ TB := tb_a3 238 rfl rfl
theorem tw_719 : (Jvm.Cond.soleField "PageMakerModel" "order") ∈ TB := tb_a3 239 rfl rfl
theorem tw_720 : (Jvm.Cond.lays "PageMakerModel" "PageMakerModel" "count" "I") ∈ TB := tb_a4 0 rfl rfl
theorem tw_721 : (Jvm.Cond.soleField "PageMakerModel" "count") ∈ TB := tb_a4 1 rfl rfl
theorem tw_722 : (Jvm.Cond.lays "PageMakerModel" "PageMakerModel" "height" "I") ∈ TB := tb_a4 2 rfl rfl
theorem tw_723 : (Jvm.Cond.soleField "PageMakerModel" "height") ∈ TB := tb_a4 3 rfl rfl
theorem tw_724 : (Jvm.Cond.lays "PageMakerModel" "PageMakerModel" "top" "I") ∈ TB := tb_a4 4 rfl rfl
theorem tw_725 : (Jvm.Cond.soleField "PageMakerModel" "top") ∈ TB := tb_a4 5 rfl rfl
theorem tw_726 : (Jvm.Cond.lays "PageMakerModel" "PageMakerModel" "greatest" "I") ∈ TB := tb_a4 6 rfl rfl
theorem tw_727 : (Jvm.Cond.soleField "PageMakerModel" "greatest") ∈ TB := tb_a4 7 rfl rfl
theorem tw_728 : (Jvm.Cond.laysFinal "PageMakerModel" "PageMakerModel" "heights" "[I") ∈ TB := tb_a4 8 rfl rfl
theorem tw_729 : (Jvm.Cond.soleField "PageMakerModel" "heights") ∈ TB := tb_a4 9 rfl rfl
theorem tw_730 : (Jvm.Cond.laysFinal "PageMakerModel" "PageMakerModel" "tops" "[I") ∈ TB := tb_a4 10 rfl rfl
theorem tw_731 : (Jvm.Cond.soleField "PageMakerModel" "tops") ∈ TB := tb_a4 11 rfl rfl
theorem tw_732 : (Jvm.Cond.laysFinal "PageMakerModel" "PageMakerModel" "depths" "[I") ∈ TB := tb_a4 12 rfl rfl
theorem tw_733 : (Jvm.Cond.soleField "PageMakerModel" "depths") ∈ TB := tb_a4 13 rfl rfl
theorem tw_734 : (Jvm.Cond.laysFinal "PageMakerModel" "PageMakerModel" "firsts" "[I") ∈ TB := tb_a4 14 rfl rfl
theorem tw_735 : (Jvm.Cond.soleField "PageMakerModel" "firsts") ∈ TB := tb_a4 15 rfl rfl
theorem tw_736 : (Jvm.Cond.laysFinal "PageMakerModel" "PageMakerModel" "ends" "[I") ∈ TB := tb_a4 16 rfl rfl
theorem tw_737 : (Jvm.Cond.soleField "PageMakerModel" "ends") ∈ TB := tb_a4 17 rfl rfl
theorem tw_738 : (Jvm.Cond.laysFinal "PageMakerModel" "PageMakerModel" "costs" "[I") ∈ TB := tb_a4 18 rfl rfl
theorem tw_739 : (Jvm.Cond.soleField "PageMakerModel" "costs") ∈ TB := tb_a4 19 rfl rfl
theorem tw_740 : (Jvm.Cond.laysFinal "PageMakerModel" "PageMakerModel" "enders" "[I") ∈ TB := tb_a4 20 rfl rfl
theorem tw_741 : (Jvm.Cond.soleField "PageMakerModel" "enders") ∈ TB := tb_a4 21 rfl rfl
theorem tw_742 : (Jvm.Cond.lays "PageMakerModel" "PageMakerModel" "pages" "I") ∈ TB := tb_a4 22 rfl rfl
theorem tw_743 : (Jvm.Cond.soleField "PageMakerModel" "pages") ∈ TB := tb_a4 23 rfl rfl
theorem tw_744 : (Jvm.Cond.lays "PageMakerModel" "PageMakerModel" "begin" "I") ∈ TB := tb_a4 24 rfl rfl
theorem tw_745 : (Jvm.Cond.soleField "PageMakerModel" "begin") ∈ TB := tb_a4 25 rfl rfl
theorem tw_746 : (Jvm.Cond.lays "PageMakerModel" "PageMakerModel" "isOpen" "Z") ∈ TB := tb_a4 26 rfl rfl
theorem tw_747 : (Jvm.Cond.soleField "PageMakerModel" "isOpen") ∈ TB := tb_a4 27 rfl rfl
theorem tw_748 : (Jvm.Cond.lays "PageMakerModel" "PageMakerModel" "best" "I") ∈ TB := tb_a4 28 rfl rfl
theorem tw_749 : (Jvm.Cond.soleField "PageMakerModel" "best") ∈ TB := tb_a4 29 rfl rfl
theorem tw_750 : (Jvm.Cond.lays "PageMakerModel" "PageMakerModel" "least" "I") ∈ TB := tb_a4 30 rfl rfl
theorem tw_751 : (Jvm.Cond.soleField "PageMakerModel" "least") ∈ TB := tb_a4 31 rfl rfl
theorem tw_752 : (Jvm.Cond.lays "PageMakerModel" "PageMakerModel" "length" "J") ∈ TB := tb_a4 32 rfl rfl
theorem tw_753 : (Jvm.Cond.soleField "PageMakerModel" "length") ∈ TB := tb_a4 33 rfl rfl
theorem tw_754 : (Jvm.Cond.lays "PageMakerModel" "PageMakerModel" "depth" "J") ∈ TB := tb_a4 34 rfl rfl
theorem tw_755 : (Jvm.Cond.soleField "PageMakerModel" "depth") ∈ TB := tb_a4 35 rfl rfl
theorem tw_756 : (Jvm.Cond.laysFinal "PageMakerModel" "PageMakerModel" "stretch" "[J") ∈ TB := tb_a4 36 rfl rfl
theorem tw_757 : (Jvm.Cond.soleField "PageMakerModel" "stretch") ∈ TB := tb_a4 37 rfl rfl
theorem tw_758 : (Jvm.Cond.lays "PageMakerModel" "PageMakerModel" "shrink" "J") ∈ TB := tb_a4 38 rfl rfl
theorem tw_759 : (Jvm.Cond.soleField "PageMakerModel" "shrink") ∈ TB := tb_a4 39 rfl rfl
theorem tw_760 : (Jvm.Cond.superclass "PageMakerModel" "java/lang/Object") ∈ TB := tb_a4 40 rfl rfl
theorem tw_761 : (Jvm.Cond.arrayClass Jvm.ClassFile.FieldType.int) ∈ TB := tb_a4 41 rfl rfl
theorem tw_762 : (Jvm.Cond.methodLink "PageMakerLaw" (58 : Nat) ({ cls := "PageMakerModel", name := "thrown", desc := "()I" } : Jvm.MethodName)) ∈ TB := tb_a4 42 rfl rfl
theorem tw_763 : (Jvm.Cond.instanceMethod ({ cls := "PageMakerModel", name := "thrown", desc := "()I" } : Jvm.MethodName)) ∈ TB := tb_a4 43 rfl rfl
theorem tw_764 : (Jvm.Cond.selects "PageMakerModel" ({ cls := "PageMakerModel", name := "thrown", desc := "()I" } : Jvm.MethodName) ({ cls := "PageMakerModel", name := "thrown", desc := "()I" } : Jvm.MethodName)) ∈ TB := tb_a4 44 rfl rfl
theorem tw_765 : (Jvm.Cond.code ({ cls := "PageMakerModel", name := "thrown", desc := "()I" } : Jvm.MethodName) prog_12_method_2_code (1 : Nat) (Option.some Jvm.ClassFile.FieldType.int)) ∈ TB := tb_a4 45 rfl rfl
theorem tw_766 : (Jvm.Cond.methodLink "PageMakerLaw" (57 : Nat) ({ cls := "PageMakerModel", name := "frame", desc := "(III)V" } : Jvm.MethodName)) ∈ TB := tb_a4 46 rfl rfl
theorem tw_767 : (Jvm.Cond.instanceMethod ({ cls := "PageMakerModel", name := "frame", desc := "(III)V" } : Jvm.MethodName)) ∈ TB := tb_a4 47 rfl rfl
theorem tw_768 : (Jvm.Cond.selects "PageMakerModel" ({ cls := "PageMakerModel", name := "frame", desc := "(III)V" } : Jvm.MethodName) ({ cls := "PageMakerModel", name := "frame", desc := "(III)V" } : Jvm.MethodName)) ∈ TB := tb_a4 48 rfl rfl
theorem tw_769 : (Jvm.Cond.code ({ cls := "PageMakerModel", name := "frame", desc := "(III)V" } : Jvm.MethodName) prog_12_method_5_code (4 : Nat) (Option.none : Option Jvm.ClassFile.FieldType)) ∈ TB := tb_a4 49 rfl rfl
theorem tw_770 : (Jvm.Cond.methodLink "PageMakerModel" (74 : Nat) ({ cls := "PageMakerModel", name := "isMore", desc := "(I)Z" } : Jvm.MethodName)) ∈ TB := tb_a4 50 rfl rfl
theorem tw_771 : (Jvm.Cond.static ({ cls := "PageMakerModel", name := "isMore", desc := "(I)Z" } : Jvm.MethodName)) ∈ TB := tb_a4 51 rfl rfl
theorem tw_772 : (Jvm.Cond.code ({ cls := "PageMakerModel", name := "isMore", desc := "(I)Z" } : Jvm.MethodName) prog_12_method_4_code (1 : Nat) (Option.some Jvm.ClassFile.FieldType.boolean)) ∈ TB := tb_a4 52 rfl rfl
theorem tw_773 : (Jvm.Cond.methodLink "PageMakerModel" (78 : Nat) ({ cls := "PageMakerModel", name := "isSize", desc := "(I)Z" } : Jvm.MethodName)) ∈ TB := tb_a4 53 rfl rfl
theorem tw_774 : (Jvm.Cond.static ({ cls := "PageMakerModel", name := "isSize", desc := "(I)Z" } : Jvm.MethodName)) ∈ TB := tb_a4 54 rfl rfl
theorem tw_775 : (Jvm.Cond.code ({ cls := "PageMakerModel", name := "isSize", desc := "(I)Z" } : Jvm.MethodName) prog_12_method_3_code (1 : Nat) (Option.some Jvm.ClassFile.FieldType.boolean)) ∈ TB := tb_a4 55 rfl rfl
theorem tw_776 : (Jvm.Cond.constant "PageMakerModel" (73 : Nat) (-1073741823 : Int32)) ∈ TB := tb_a4 56 rfl rfl
theorem tw_777 : (Jvm.Cond.methodLink "PageMakerLaw" (65 : Nat) ({ cls := "PageMakerModel", name := "box", desc := "(III)I" } : Jvm.MethodName)) ∈ TB := tb_a4 57 rfl rfl
theorem tw_778 : (Jvm.Cond.instanceMethod ({ cls := "PageMakerModel", name := "box", desc := "(III)I" } : Jvm.MethodName)) ∈ TB := tb_a4 58 rfl rfl
theorem tw_779 : (Jvm.Cond.selects "PageMakerModel" ({ cls := "PageMakerModel", name := "box", desc := "(III)I" } : Jvm.MethodName) ({ cls := "PageMakerModel", name := "box", desc := "(III)I" } : Jvm.MethodName)) ∈ TB := tb_a4 59 rfl rfl
theorem tw_780 : (Jvm.Cond.code ({ cls := "PageMakerModel", name := "box", desc := "(III)I" } : Jvm.MethodName) prog_12_method_18_code (4 : Nat) (Option.some Jvm.ClassFile.FieldType.int)) ∈ TB := tb_a4 60 rfl rfl
theorem tw_781 : (Jvm.Cond.methodLink "PageMakerModel" (154 : Nat) ({ cls := "PageMakerModel", name := "append", desc := "(IIIII)I" } : Jvm.MethodName)) ∈ TB := tb_a4 61 rfl rfl
theorem tw_783 : (Jvm.Cond.instanceMethod ({ cls := "PageMakerModel", name := "append", desc := "(IIIII)I" } : Jvm.MethodName)) ∈ TB := tb_a4 63 rfl rfl
theorem tw_784 : (Jvm.Cond.code ({ cls := "PageMakerModel", name := "append", desc := "(IIIII)I" } : Jvm.MethodName) prog_12_method_17_code (6 : Nat) (Option.some Jvm.ClassFile.FieldType.int)) ∈ TB := tb_a4 64 rfl rfl
theorem tw_785 : (Jvm.Cond.methodLink "PageMakerModel" (150 : Nat) ({ cls := "PageMakerModel", name := "goOn", desc := "()I" } : Jvm.MethodName)) ∈ TB := tb_a4 65 rfl rfl
theorem tw_787 : (Jvm.Cond.instanceMethod ({ cls := "PageMakerModel", name := "goOn", desc := "()I" } : Jvm.MethodName)) ∈ TB := tb_a4 67 rfl rfl
theorem tw_788 : (Jvm.Cond.code ({ cls := "PageMakerModel", name := "goOn", desc := "()I" } : Jvm.MethodName) prog_12_method_16_code (1 : Nat) (Option.some Jvm.ClassFile.FieldType.int)) ∈ TB := tb_a4 68 rfl rfl
theorem tw_789 : (Jvm.Cond.methodLink "PageMakerModel" (144 : Nat) ({ cls := "PageMakerModel", name := "openPage", desc := "()V" } : Jvm.MethodName)) ∈ TB := tb_a4 69 rfl rfl
theorem tw_791 : (Jvm.Cond.instanceMethod ({ cls := "PageMakerModel", name := "openPage", desc := "()V" } : Jvm.MethodName)) ∈ TB := tb_a4 71 rfl rfl
theorem tw_792 : (Jvm.Cond.code ({ cls := "PageMakerModel", name := "openPage", desc := "()V" } : Jvm.MethodName) prog_12_method_14_code (1 : Nat) (Option.none : Option Jvm.ClassFile.FieldType)) ∈ TB := tb_a4 72 rfl rfl
theorem tw_793 : (Jvm.Cond.methodLink "PageMakerModel" (147 : Nat) ({ cls := "PageMakerModel", name := "breaks", desc := "()Z" } : Jvm.MethodName)) ∈ TB := tb_a4 73 rfl rfl
theorem tw_795 : (Jvm.Cond.instanceMethod ({ cls := "PageMakerModel", name := "breaks", desc := "()Z" } : Jvm.MethodName)) ∈ TB := tb_a4 75 rfl rfl
theorem tw_796 : (Jvm.Cond.code ({ cls := "PageMakerModel", name := "breaks", desc := "()Z" } : Jvm.MethodName) prog_12_method_15_code (4 : Nat) (Option.some Jvm.ClassFile.FieldType.boolean)) ∈ TB := tb_a4 76 rfl rfl
theorem tw_797 : (Jvm.Cond.methodLink "PageMakerModel" (91 : Nat) ({ cls := "PageMakerModel", name := "clear", desc := "(I)V" } : Jvm.MethodName)) ∈ TB := tb_a4 77 rfl rfl
theorem tw_799 : (Jvm.Cond.instanceMethod ({ cls := "PageMakerModel", name := "clear", desc := "(I)V" } : Jvm.MethodName)) ∈ TB := tb_a4 79 rfl rfl
theorem tw_800 : (Jvm.Cond.code ({ cls := "PageMakerModel", name := "clear", desc := "(I)V" } : Jvm.MethodName) prog_12_method_6_code (3 : Nat) (Option.none : Option Jvm.ClassFile.FieldType)) ∈ TB := tb_a4 80 rfl rfl
theorem tw_801 : (Jvm.Cond.methodLink "PageMakerModel" (95 : Nat) ({ cls := "PageMakerModel", name := "add", desc := "(II)V" } : Jvm.MethodName)) ∈ TB := tb_a4 81 rfl rfl
theorem tw_803 : (Jvm.Cond.instanceMethod ({ cls := "PageMakerModel", name := "add", desc := "(II)V" } : Jvm.MethodName)) ∈ TB := tb_a4 83 rfl rfl
theorem tw_804 : (Jvm.Cond.code ({ cls := "PageMakerModel", name := "add", desc := "(II)V" } : Jvm.MethodName) prog_12_method_7_code (3 : Nat) (Option.none : Option Jvm.ClassFile.FieldType)) ∈ TB := tb_a4 84 rfl rfl
theorem tw_805 : (Jvm.Cond.methodLink "PageMakerModel" (137 : Nat) ({ cls := "PageMakerModel", name := "penaltyAt", desc := "(I)I" } : Jvm.MethodName)) ∈ TB := tb_a4 85 rfl rfl
theorem tw_807 : (Jvm.Cond.instanceMethod ({ cls := "PageMakerModel", name := "penaltyAt", desc := "(I)I" } : Jvm.MethodName)) ∈ TB := tb_a4 87 rfl rfl
theorem tw_808 : (Jvm.Cond.code ({ cls := "PageMakerModel", name := "penaltyAt", desc := "(I)I" } : Jvm.MethodName) prog_12_method_13_code (2 : Nat) (Option.some Jvm.ClassFile.FieldType.int)) ∈ TB := tb_a4 88 rfl rfl
theorem tw_809 : (Jvm.Cond.methodLink "PageMakerModel" (140 : Nat) ({ cls := "PageMakerModel", name := "cost", desc := "(II)I" } : Jvm.MethodName)) ∈ TB := tb_a4 89 rfl rfl
theorem tw_811 : (Jvm.Cond.instanceMethod ({ cls := "PageMakerModel", name := "cost", desc := "(II)I" } : Jvm.MethodName)) ∈ TB := tb_a4 91 rfl rfl
theorem tw_812 : (Jvm.Cond.code ({ cls := "PageMakerModel", name := "cost", desc := "(II)I" } : Jvm.MethodName) prog_12_method_12_code (4 : Nat) (Option.some Jvm.ClassFile.FieldType.int)) ∈ TB := tb_a4 92 rfl rfl
theorem tw_813 : (Jvm.Cond.methodLink "PageMakerModel" (119 : Nat) ({ cls := "PageMakerModel", name := "badness", desc := "(I)I" } : Jvm.MethodName)) ∈ TB := tb_a4 93 rfl rfl
theorem tw_815 : (Jvm.Cond.instanceMethod ({ cls := "PageMakerModel", name := "badness", desc := "(I)I" } : Jvm.MethodName)) ∈ TB := tb_a4 95 rfl rfl
theorem tw_816 : (Jvm.Cond.code ({ cls := "PageMakerModel", name := "badness", desc := "(I)I" } : Jvm.MethodName) prog_12_method_11_code (4 : Nat) (Option.some Jvm.ClassFile.FieldType.int)) ∈ TB := tb_a4 96 rfl rfl
theorem tw_817 : (Jvm.Cond.methodLink "PageMakerModel" (111 : Nat) ({ cls := "PageMakerModel", name := "isEndless", desc := "()Z" } : Jvm.MethodName)) ∈ TB := tb_a4 97 rfl rfl
theorem tw_819 : (Jvm.Cond.instanceMethod ({ cls := "PageMakerModel", name := "isEndless", desc := "()Z" } : Jvm.MethodName)) ∈ TB := tb_a4 99 rfl rfl
theorem tw_820 : (Jvm.Cond.code ({ cls := "PageMakerModel", name := "isEndless", desc := "()Z" } : Jvm.MethodName) prog_12_method_10_code (1 : Nat) (Option.some Jvm.ClassFile.FieldType.boolean)) ∈ TB := tb_a4 100 rfl rfl
theorem tw_821 : (Jvm.Cond.methodLink "PageMakerModel" (115 : Nat) ({ cls := "PageMakerModel", name := "bad", desc := "(JJ)I" } : Jvm.MethodName)) ∈ TB := tb_a4 101 rfl rfl
theorem tw_822 : (Jvm.Cond.static ({ cls := "PageMakerModel", name := "bad", desc := "(JJ)I" } : Jvm.MethodName)) ∈ TB := tb_a4 102 rfl rfl
theorem tw_823 : (Jvm.Cond.code ({ cls := "PageMakerModel", name := "bad", desc := "(JJ)I" } : Jvm.MethodName) prog_12_method_9_code (6 : Nat) (Option.some Jvm.ClassFile.FieldType.int)) ∈ TB := tb_a4 103 rfl rfl
theorem tw_824 : (Jvm.Cond.constantLong "PageMakerModel" (99 : Nat) (7230584 : Int64)) ∈ TB := tb_a4 104 rfl rfl
theorem tw_825 : (Jvm.Cond.constantLong "PageMakerModel" (101 : Nat) (297 : Int64)) ∈ TB := tb_a4 105 rfl rfl
theorem tw_826 : (Jvm.Cond.constantLong "PageMakerModel" (103 : Nat) (1663497 : Int64)) ∈ TB := tb_a4 106 rfl rfl
theorem tw_827 : (Jvm.Cond.constantLong "PageMakerModel" (105 : Nat) (1290 : Int64)) ∈ TB := tb_a4 107 rfl rfl
theorem tw_828 : (Jvm.Cond.constantLong "PageMakerModel" (107 : Nat) (131072 : Int64)) ∈ TB := tb_a4 108 rfl rfl
theorem tw_829 : (Jvm.Cond.constantLong "PageMakerModel" (109 : Nat) (262144 : Int64)) ∈ TB := tb_a4 109 rfl rfl
theorem tw_830 : (Jvm.Cond.constant "PageMakerModel" (123 : Nat) (100000 : Int32)) ∈ TB := tb_a4 110 rfl rfl
theorem tw_831 : (Jvm.Cond.methodLink "PageMakerLaw" (69 : Nat) ({ cls := "PageMakerModel", name := "glue", desc := "(IIII)I" } : Jvm.MethodName)) ∈ TB := tb_a4 111 rfl rfl
theorem tw_832 : (Jvm.Cond.instanceMethod ({ cls := "PageMakerModel", name := "glue", desc := "(IIII)I" } : Jvm.MethodName)) ∈ TB := tb_a4 112 rfl rfl
theorem tw_833 : (Jvm.Cond.selects "PageMakerModel" ({ cls := "PageMakerModel", name := "glue", desc := "(IIII)I" } : Jvm.MethodName) ({ cls := "PageMakerModel", name := "glue", desc := "(IIII)I" } : Jvm.MethodName)) ∈ TB := tb_a4 113 rfl rfl
theorem tw_834 : (Jvm.Cond.code ({ cls := "PageMakerModel", name := "glue", desc := "(IIII)I" } : Jvm.MethodName) prog_12_method_19_code (5 : Nat) (Option.some Jvm.ClassFile.FieldType.int)) ∈ TB := tb_a4 114 rfl rfl
theorem tw_835 : (Jvm.Cond.methodLink "PageMakerLaw" (73 : Nat) ({ cls := "PageMakerModel", name := "kern", desc := "(I)I" } : Jvm.MethodName)) ∈ TB := tb_a4 115 rfl rfl
theorem tw_836 : (Jvm.Cond.instanceMethod ({ cls := "PageMakerModel", name := "kern", desc := "(I)I" } : Jvm.MethodName)) ∈ TB := tb_a4 116 rfl rfl
theorem tw_837 : (Jvm.Cond.selects "PageMakerModel" ({ cls := "PageMakerModel", name := "kern", desc := "(I)I" } : Jvm.MethodName) ({ cls := "PageMakerModel", name := "kern", desc := "(I)I" } : Jvm.MethodName)) ∈ TB := tb_a4 117 rfl rfl
theorem tw_838 : (Jvm.Cond.code ({ cls := "PageMakerModel", name := "kern", desc := "(I)I" } : Jvm.MethodName) prog_12_method_20_code (2 : Nat) (Option.some Jvm.ClassFile.FieldType.int)) ∈ TB := tb_a4 118 rfl rfl
theorem tw_839 : (Jvm.Cond.methodLink "PageMakerLaw" (76 : Nat) ({ cls := "PageMakerModel", name := "penalty", desc := "(I)I" } : Jvm.MethodName)) ∈ TB := tb_a4 119 rfl rfl
theorem tw_840 : (Jvm.Cond.instanceMethod ({ cls := "PageMakerModel", name := "penalty", desc := "(I)I" } : Jvm.MethodName)) ∈ TB := tb_a4 120 rfl rfl
theorem tw_841 : (Jvm.Cond.selects "PageMakerModel" ({ cls := "PageMakerModel", name := "penalty", desc := "(I)I" } : Jvm.MethodName) ({ cls := "PageMakerModel", name := "penalty", desc := "(I)I" } : Jvm.MethodName)) ∈ TB := tb_a4 121 rfl rfl
theorem tw_842 : (Jvm.Cond.code ({ cls := "PageMakerModel", name := "penalty", desc := "(I)I" } : Jvm.MethodName) prog_12_method_21_code (2 : Nat) (Option.some Jvm.ClassFile.FieldType.int)) ∈ TB := tb_a4 122 rfl rfl
theorem tw_843 : (Jvm.Cond.constant "PageMakerModel" (158 : Nat) (-100000 : Int32)) ∈ TB := tb_a4 123 rfl rfl
theorem tw_844 : (Jvm.Cond.methodLink "PageMakerLaw" (80 : Nat) ({ cls := "PageMakerModel", name := "items", desc := "()I" } : Jvm.MethodName)) ∈ TB := tb_a4 124 rfl rfl
theorem tw_845 : (Jvm.Cond.instanceMethod ({ cls := "PageMakerModel", name := "items", desc := "()I" } : Jvm.MethodName)) ∈ TB := tb_a4 125 rfl rfl
theorem tw_846 : (Jvm.Cond.selects "PageMakerModel" ({ cls := "PageMakerModel", name := "items", desc := "()I" } : Jvm.MethodName) ({ cls := "PageMakerModel", name := "items", desc := "()I" } : Jvm.MethodName)) ∈ TB := tb_a4 126 rfl rfl
theorem tw_847 : (Jvm.Cond.code ({ cls := "PageMakerModel", name := "items", desc := "()I" } : Jvm.MethodName) prog_12_method_22_code (1 : Nat) (Option.some Jvm.ClassFile.FieldType.int)) ∈ TB := tb_a4 127 rfl rfl
theorem tw_848 : (Jvm.Cond.methodLink "PageMakerLaw" (84 : Nat) ({ cls := "PageMakerModel", name := "pages", desc := "()I" } : Jvm.MethodName)) ∈ TB := tb_a4 128 rfl rfl
theorem tw_849 : (Jvm.Cond.instanceMethod ({ cls := "PageMakerModel", name := "pages", desc := "()I" } : Jvm.MethodName)) ∈ TB := tb_a4 129 rfl rfl
theorem tw_850 : (Jvm.Cond.selects "PageMakerModel" ({ cls := "PageMakerModel", name := "pages", desc := "()I" } : Jvm.MethodName) ({ cls := "PageMakerModel", name := "pages", desc := "()I" } : Jvm.MethodName)) ∈ TB := tb_a4 130 rfl rfl
theorem tw_851 : (Jvm.Cond.code ({ cls := "PageMakerModel", name := "pages", desc := "()I" } : Jvm.MethodName) prog_12_method_23_code (1 : Nat) (Option.some Jvm.ClassFile.FieldType.int)) ∈ TB := tb_a4 131 rfl rfl
theorem tw_852 : (Jvm.Cond.methodLink "PageMakerLaw" (88 : Nat) ({ cls := "PageMakerModel", name := "page", desc := "(II)J" } : Jvm.MethodName)) ∈ TB := tb_a4 132 rfl rfl
theorem tw_853 : (Jvm.Cond.instanceMethod ({ cls := "PageMakerModel", name := "page", desc := "(II)J" } : Jvm.MethodName)) ∈ TB := tb_a4 133 rfl rfl
theorem tw_854 : (Jvm.Cond.selects "PageMakerModel" ({ cls := "PageMakerModel", name := "page", desc := "(II)J" } : Jvm.MethodName) ({ cls := "PageMakerModel", name := "page", desc := "(II)J" } : Jvm.MethodName)) ∈ TB := tb_a4 134 rfl rfl
theorem tw_855 : (Jvm.Cond.code ({ cls := "PageMakerModel", name := "page", desc := "(II)J" } : Jvm.MethodName) prog_12_method_25_code (5 : Nat) (Option.some Jvm.ClassFile.FieldType.long)) ∈ TB := tb_a4 135 rfl rfl
theorem tw_856 : (Jvm.Cond.methodLink "PageMakerModel" (159 : Nat) ({ cls := "PageMakerModel", name := "addUpTo", desc := "(II)V" } : Jvm.MethodName)) ∈ TB := tb_a4 136 rfl rfl
theorem tw_858 : (Jvm.Cond.instanceMethod ({ cls := "PageMakerModel", name := "addUpTo", desc := "(II)V" } : Jvm.MethodName)) ∈ TB := tb_a4 138 rfl rfl
theorem tw_859 : (Jvm.Cond.code ({ cls := "PageMakerModel", name := "addUpTo", desc := "(II)V" } : Jvm.MethodName) prog_12_method_8_code (4 : Nat) (Option.none : Option Jvm.ClassFile.FieldType)) ∈ TB := tb_a4 139 rfl rfl
theorem tw_860 : (Jvm.Cond.methodLink "PageMakerModel" (162 : Nat) ({ cls := "PageMakerModel", name := "orderOf", desc := "(J)I" } : Jvm.MethodName)) ∈ TB := tb_a4 140 rfl rfl
theorem tw_862 : (Jvm.Cond.instanceMethod ({ cls := "PageMakerModel", name := "orderOf", desc := "(J)I" } : Jvm.MethodName)) ∈ TB := tb_a4 142 rfl rfl
theorem tw_863 : (Jvm.Cond.code ({ cls := "PageMakerModel", name := "orderOf", desc := "(J)I" } : Jvm.MethodName) prog_12_method_24_code (5 : Nat) (Option.some Jvm.ClassFile.FieldType.int)) ∈ TB := tb_a4 143 rfl rfl
theorem tw_864 : (Jvm.Cond.methodLink "PageMakerLaw" (91 : Nat) ({ cls := "PageMakerModel", name := "stands", desc := "(II)J" } : Jvm.MethodName)) ∈ TB := tb_a4 144 rfl rfl
theorem tw_865 : (Jvm.Cond.instanceMethod ({ cls := "PageMakerModel", name := "stands", desc := "(II)J" } : Jvm.MethodName)) ∈ TB := tb_a4 145 rfl rfl
theorem tw_866 : (Jvm.Cond.selects "PageMakerModel" ({ cls := "PageMakerModel", name := "stands", desc := "(II)J" } : Jvm.MethodName) ({ cls := "PageMakerModel", name := "stands", desc := "(II)J" } : Jvm.MethodName)) ∈ TB := tb_a4 146 rfl rfl
theorem tw_867 : (Jvm.Cond.code ({ cls := "PageMakerModel", name := "stands", desc := "(II)J" } : Jvm.MethodName) prog_12_method_27_code (11 : Nat) (Option.some Jvm.ClassFile.FieldType.long)) ∈ TB := tb_a4 147 rfl rfl
theorem tw_868 : (Jvm.Cond.methodLink "PageMakerModel" (170 : Nat) ({ cls := "PageMakerModel", name := "nearest", desc := "(JJJ)J" } : Jvm.MethodName)) ∈ TB := tb_a4 148 rfl rfl
theorem tw_869 : (Jvm.Cond.static ({ cls := "PageMakerModel", name := "nearest", desc := "(JJJ)J" } : Jvm.MethodName)) ∈ TB := tb_a4 149 rfl rfl
theorem tw_870 : (Jvm.Cond.code ({ cls := "PageMakerModel", name := "nearest", desc := "(JJJ)J" } : Jvm.MethodName) prog_12_method_26_code (11 : Nat) (Option.some Jvm.ClassFile.FieldType.long)) ∈ TB := tb_a4 150 rfl rfl
theorem tw_871 : (Jvm.Cond.constantLong "PageMakerModel" (166 : Nat) (1048576 : Int64)) ∈ TB := tb_a4 151 rfl rfl
theorem tw_872 : (Jvm.Cond.constantLong "PageMakerModel" (168 : Nat) (1048575 : Int64)) ∈ TB := tb_a4 152 rfl rfl
theorem tw_873 : (Jvm.Cond.methodLink "PageMakerLaw" (94 : Nat) ({ cls := "PageMakerModel", name := "where", desc := "(I)I" } : Jvm.MethodName)) ∈ TB := tb_a4 153 rfl rfl
theorem tw_874 : (Jvm.Cond.instanceMethod ({ cls := "PageMakerModel", name := "where", desc := "(I)I" } : Jvm.MethodName)) ∈ TB := tb_a4 154 rfl rfl
theorem tw_875 : (Jvm.Cond.selects "PageMakerModel" ({ cls := "PageMakerModel", name := "where", desc := "(I)I" } : Jvm.MethodName) ({ cls := "PageMakerModel", name := "where", desc := "(I)I" } : Jvm.MethodName)) ∈ TB := tb_a4 155 rfl rfl
theorem tw_876 : (Jvm.Cond.code ({ cls := "PageMakerModel", name := "where", desc := "(I)I" } : Jvm.MethodName) prog_12_method_28_code (4 : Nat) (Option.some Jvm.ClassFile.FieldType.int)) ∈ TB := tb_a4 156 rfl rfl
theorem tw_877 : (Jvm.Cond.methodLink "PageMakerLaw" (97 : Nat) ({ cls := "PageMakerModel", name := "open", desc := "(I)J" } : Jvm.MethodName)) ∈ TB := tb_a4 157 rfl rfl
theorem tw_878 : (Jvm.Cond.instanceMethod ({ cls := "PageMakerModel", name := "open", desc := "(I)J" } : Jvm.MethodName)) ∈ TB := tb_a4 158 rfl rfl
theorem tw_879 : (Jvm.Cond.selects "PageMakerModel" ({ cls := "PageMakerModel", name := "open", desc := "(I)J" } : Jvm.MethodName) ({ cls := "PageMakerModel", name := "open", desc := "(I)J" } : Jvm.MethodName)) ∈ TB := tb_a4 159 rfl rfl
theorem tw_880 : (Jvm.Cond.code ({ cls := "PageMakerModel", name := "open", desc := "(I)J" } : Jvm.MethodName) prog_12_method_29_code (2 : Nat) (Option.some Jvm.ClassFile.FieldType.long)) ∈ TB := tb_a4 160 rfl rfl
theorem tw_881 : (Jvm.Cond.constantLong "PageMakerModel" (174 : Nat) (-1 : Int64)) ∈ TB := tb_a4 161 rfl rfl
theorem tw_882 : (Jvm.Cond.constantLong "PageMakerModel" (176 : Nat) (1073741823 : Int64)) ∈ TB := tb_a4 162 rfl rfl
theorem tw_883 : (Jvm.Cond.sameMethod "java/lang/Throwable" "java/lang/Throwable" "fillInStackTrace" "(I)Ljava/lang/Throwable;") ∈ TB := tb_a4 163 rfl rfl
theorem tw_893 : (Jvm.Cond.sameMethod "[Ljava/lang/Object;" "java/lang/Object" "getClass" "()Ljava/lang/Class;") ∈ TB := tb_a4 173 rfl rfl
theorem tw_894 : (Jvm.Cond.selects "[Ljava/lang/Object;" ({ cls := "java/lang/Object", name := "getClass", desc := "()Ljava/lang/Class;" } : Jvm.MethodName) ({ cls := "java/lang/Object", name := "getClass", desc := "()Ljava/lang/Class;" } : Jvm.MethodName)) ∈ TB := tb_a4 174 rfl rfl
theorem tp_0 : Cond.selects "java/lang/Throwable" ⟨"java/lang/Throwable", "fillInStackTrace", "(I)Ljava/lang/Throwable;"⟩ ⟨"java/lang/Throwable", "fillInStackTrace", "(I)Ljava/lang/Throwable;"⟩ ∈ TB := tb_pr 0 rfl rfl
theorem tp_1 : Cond.selects "PageMaker" ⟨"PageMaker", "needRoom", "()V"⟩ ⟨"PageMaker", "needRoom", "()V"⟩ ∈ TB := tb_pr 1 rfl rfl
theorem tp_2 : Cond.selects "PageMaker" ⟨"PageMaker", "comeIn", "(LPageMaker$Item;)I"⟩ ⟨"PageMaker", "comeIn", "(LPageMaker$Item;)I"⟩ ∈ TB := tb_pr 2 rfl rfl
theorem tp_3 : Cond.selects "java/util/ArrayList" ⟨"java/util/ArrayList", "add", "(Ljava/lang/Object;[Ljava/lang/Object;I)V"⟩ ⟨"java/util/ArrayList", "add", "(Ljava/lang/Object;[Ljava/lang/Object;I)V"⟩ ∈ TB := tb_pr 3 rfl rfl
theorem tp_4 : Cond.selects "java/util/ArrayList" ⟨"java/util/ArrayList", "grow", "()[Ljava/lang/Object;"⟩ ⟨"java/util/ArrayList", "grow", "()[Ljava/lang/Object;"⟩ ∈ TB := tb_pr 4 rfl rfl
theorem tp_5 : Cond.selects "java/util/ArrayList" ⟨"java/util/ArrayList", "grow", "(I)[Ljava/lang/Object;"⟩ ⟨"java/util/ArrayList", "grow", "(I)[Ljava/lang/Object;"⟩ ∈ TB := tb_pr 5 rfl rfl
theorem tp_6 : Cond.selects "PageMaker" ⟨"PageMaker", "lookFrom", "(I)V"⟩ ⟨"PageMaker", "lookFrom", "(I)V"⟩ ∈ TB := tb_pr 6 rfl rfl
theorem tp_7 : Cond.selects "PageMaker" ⟨"PageMaker", "isItem", "(I)Z"⟩ ⟨"PageMaker", "isItem", "(I)Z"⟩ ∈ TB := tb_pr 7 rfl rfl
theorem tp_8 : Cond.selects "PageMaker" ⟨"PageMaker", "breakEndsPage", "(ILPageMaker$Item;)Z"⟩ ⟨"PageMaker", "breakEndsPage", "(ILPageMaker$Item;)Z"⟩ ∈ TB := tb_pr 8 rfl rfl
theorem tp_9 : Cond.selects "PageMaker" ⟨"PageMaker", "endOpenPage", "()I"⟩ ⟨"PageMaker", "endOpenPage", "()I"⟩ ∈ TB := tb_pr 9 rfl rfl
theorem tp_10 : Cond.selects "PageMaker" ⟨"PageMaker", "totalsOf", "(LPageMaker$Frame;II)LPageMaker$Totals;"⟩ ⟨"PageMaker", "totalsOf", "(LPageMaker$Frame;II)LPageMaker$Totals;"⟩ ∈ TB := tb_pr 10 rfl rfl
theorem tp_11 : Cond.selects "PageMaker" ⟨"PageMaker", "takeIn", "(ILPageMaker$Item;)V"⟩ ⟨"PageMaker", "takeIn", "(ILPageMaker$Item;)V"⟩ ∈ TB := tb_pr 11 rfl rfl
theorem tp_12 : Cond.selects "PageMaker" ⟨"PageMaker", "endedPage", "(I)LPageMaker$EndedPage;"⟩ ⟨"PageMaker", "endedPage", "(I)LPageMaker$EndedPage;"⟩ ∈ TB := tb_pr 12 rfl rfl
theorem tp_13 : Cond.selects "PageMakerModel" ⟨"PageMakerModel", "append", "(IIIII)I"⟩ ⟨"PageMakerModel", "append", "(IIIII)I"⟩ ∈ TB := tb_pr 13 rfl rfl
theorem tp_14 : Cond.selects "PageMakerModel" ⟨"PageMakerModel", "goOn", "()I"⟩ ⟨"PageMakerModel", "goOn", "()I"⟩ ∈ TB := tb_pr 14 rfl rfl
theorem tp_15 : Cond.selects "PageMakerModel" ⟨"PageMakerModel", "openPage", "()V"⟩ ⟨"PageMakerModel", "openPage", "()V"⟩ ∈ TB := tb_pr 15 rfl rfl
theorem tp_16 : Cond.selects "PageMakerModel" ⟨"PageMakerModel", "breaks", "()Z"⟩ ⟨"PageMakerModel", "breaks", "()Z"⟩ ∈ TB := tb_pr 16 rfl rfl
theorem tp_17 : Cond.selects "PageMakerModel" ⟨"PageMakerModel", "clear", "(I)V"⟩ ⟨"PageMakerModel", "clear", "(I)V"⟩ ∈ TB := tb_pr 17 rfl rfl
theorem tp_18 : Cond.selects "PageMakerModel" ⟨"PageMakerModel", "add", "(II)V"⟩ ⟨"PageMakerModel", "add", "(II)V"⟩ ∈ TB := tb_pr 18 rfl rfl
theorem tp_19 : Cond.selects "PageMakerModel" ⟨"PageMakerModel", "penaltyAt", "(I)I"⟩ ⟨"PageMakerModel", "penaltyAt", "(I)I"⟩ ∈ TB := tb_pr 19 rfl rfl
theorem tp_20 : Cond.selects "PageMakerModel" ⟨"PageMakerModel", "cost", "(II)I"⟩ ⟨"PageMakerModel", "cost", "(II)I"⟩ ∈ TB := tb_pr 20 rfl rfl
theorem tp_21 : Cond.selects "PageMakerModel" ⟨"PageMakerModel", "badness", "(I)I"⟩ ⟨"PageMakerModel", "badness", "(I)I"⟩ ∈ TB := tb_pr 21 rfl rfl
theorem tp_22 : Cond.selects "PageMakerModel" ⟨"PageMakerModel", "isEndless", "()Z"⟩ ⟨"PageMakerModel", "isEndless", "()Z"⟩ ∈ TB := tb_pr 22 rfl rfl
theorem tp_23 : Cond.selects "PageMakerModel" ⟨"PageMakerModel", "addUpTo", "(II)V"⟩ ⟨"PageMakerModel", "addUpTo", "(II)V"⟩ ∈ TB := tb_pr 23 rfl rfl
theorem tp_24 : Cond.selects "PageMakerModel" ⟨"PageMakerModel", "orderOf", "(J)I"⟩ ⟨"PageMakerModel", "orderOf", "(J)I"⟩ ∈ TB := tb_pr 24 rfl rfl
/-! classes: fields (declarer, name, descriptor, final), types; the list of them -/
def T_AL : u_T := fun k => match k with
  | 0 => ("java/util/AbstractList", "modCount", "I", false)
  | 1 => ("java/util/ArrayList", "elementData", "[Ljava/lang/Object;", false)
  | _ => ("java/util/ArrayList", "size", "I", false)
def ty_AL : Nat → FieldType := fun k => match k with
  | 0 => .int
  | 1 => .array (.object "java/lang/Object")
  | _ => .int
theorem nm_AL : ∀ a, a < 3 → ∀ b, b < 3 → a ≠ b → (T_AL a).2.1 ≠ (T_AL b).2.1 := by decide +kernel
theorem to_AL : ∀ k, k < 3 → parseFieldDescriptor (T_AL k).2.2.1 = some (ty_AL k) := by decide +kernel
theorem in_AL : ∀ w ∈ u_ws "java/util/ArrayList" T_AL 3, w ∈ TB := by
  intro w h
  obtain ⟨k, hk, rfl⟩ := List.mem_map.mp h
  have hk := List.mem_range.mp hk
  match k, hk with
  | 0, _ => exact tw_58
  | 1, _ => exact tw_54
  | 2, _ => exact tw_56
def T_FR : u_T := fun k => match k with
  | 0 => ("PageMaker$Frame", "height", "I", true)
  | 1 => ("PageMaker$Frame", "top", "I", true)
  | _ => ("PageMaker$Frame", "greatest", "I", true)
def ty_FR : Nat → FieldType := fun k => match k with
  | 0 => .int
  | 1 => .int
  | _ => .int
theorem nm_FR : ∀ a, a < 3 → ∀ b, b < 3 → a ≠ b → (T_FR a).2.1 ≠ (T_FR b).2.1 := by decide +kernel
theorem to_FR : ∀ k, k < 3 → parseFieldDescriptor (T_FR k).2.2.1 = some (ty_FR k) := by decide +kernel
theorem in_FR : ∀ w ∈ u_ws "PageMaker$Frame" T_FR 3, w ∈ TB := by
  intro w h
  obtain ⟨k, hk, rfl⟩ := List.mem_map.mp h
  have hk := List.mem_range.mp hk
  match k, hk with
  | 0, _ => exact tw_77
  | 1, _ => exact tw_79
  | 2, _ => exact tw_81
def T_OP : u_T := fun k => match k with
  | 0 => ("PageMaker$OpenPage", "totals", "LPageMaker$Totals;", true)
  | 1 => ("PageMaker$OpenPage", "frame", "LPageMaker$Frame;", false)
  | 2 => ("PageMaker$OpenPage", "first", "I", false)
  | 3 => ("PageMaker$OpenPage", "lengthBeforeLast", "J", false)
  | 4 => ("PageMaker$OpenPage", "bestItem", "I", false)
  | 5 => ("PageMaker$OpenPage", "bestCost", "I", false)
  | 6 => ("PageMaker$OpenPage", "bestBadness", "I", false)
  | _ => ("PageMaker$OpenPage", "endingItem", "I", false)
def ty_OP : Nat → FieldType := fun k => match k with
  | 0 => .object "PageMaker$Totals"
  | 1 => .object "PageMaker$Frame"
  | 2 => .int
  | 3 => .long
  | 4 => .int
  | 5 => .int
  | 6 => .int
  | _ => .int
theorem nm_OP : ∀ a, a < 8 → ∀ b, b < 8 → a ≠ b → (T_OP a).2.1 ≠ (T_OP b).2.1 := by decide +kernel
theorem to_OP : ∀ k, k < 8 → parseFieldDescriptor (T_OP k).2.2.1 = some (ty_OP k) := by decide +kernel
theorem in_OP : ∀ w ∈ u_ws "PageMaker$OpenPage" T_OP 8, w ∈ TB := by
  intro w h
  obtain ⟨k, hk, rfl⟩ := List.mem_map.mp h
  have hk := List.mem_range.mp hk
  match k, hk with
  | 0, _ => exact tw_143
  | 1, _ => exact tw_145
  | 2, _ => exact tw_147
  | 3, _ => exact tw_149
  | 4, _ => exact tw_151
  | 5, _ => exact tw_153
  | 6, _ => exact tw_155
  | 7, _ => exact tw_157
def T_TO : u_T := fun k => match k with
  | 0 => ("PageMaker$Totals", "stretch", "[J", true)
  | 1 => ("PageMaker$Totals", "length", "J", false)
  | 2 => ("PageMaker$Totals", "depth", "J", false)
  | _ => ("PageMaker$Totals", "shrink", "J", false)
def ty_TO : Nat → FieldType := fun k => match k with
  | 0 => .array .long
  | 1 => .long
  | 2 => .long
  | _ => .long
theorem nm_TO : ∀ a, a < 4 → ∀ b, b < 4 → a ≠ b → (T_TO a).2.1 ≠ (T_TO b).2.1 := by decide +kernel
theorem to_TO : ∀ k, k < 4 → parseFieldDescriptor (T_TO k).2.2.1 = some (ty_TO k) := by decide +kernel
theorem in_TO : ∀ w ∈ u_ws "PageMaker$Totals" T_TO 4, w ∈ TB := by
  intro w h
  obtain ⟨k, hk, rfl⟩ := List.mem_map.mp h
  have hk := List.mem_range.mp hk
  match k, hk with
  | 0, _ => exact tw_112
  | 1, _ => exact tw_114
  | 2, _ => exact tw_116
  | 3, _ => exact tw_118
def T_PM : u_T := fun k => match k with
  | 0 => ("PageMaker", "allItems", "Ljava/util/ArrayList;", true)
  | 1 => ("PageMaker", "endedPages", "Ljava/util/ArrayList;", true)
  | 2 => ("PageMaker", "frameNow", "LPageMaker$Frame;", false)
  | _ => ("PageMaker", "openPage", "LPageMaker$OpenPage;", false)
def ty_PM : Nat → FieldType := fun k => match k with
  | 0 => .object "java/util/ArrayList"
  | 1 => .object "java/util/ArrayList"
  | 2 => .object "PageMaker$Frame"
  | _ => .object "PageMaker$OpenPage"
theorem nm_PM : ∀ a, a < 4 → ∀ b, b < 4 → a ≠ b → (T_PM a).2.1 ≠ (T_PM b).2.1 := by decide +kernel
theorem to_PM : ∀ k, k < 4 → parseFieldDescriptor (T_PM k).2.2.1 = some (ty_PM k) := by decide +kernel
theorem in_PM : ∀ w ∈ u_ws "PageMaker" T_PM 4, w ∈ TB := by
  intro w h
  obtain ⟨k, hk, rfl⟩ := List.mem_map.mp h
  have hk := List.mem_range.mp hk
  match k, hk with
  | 0, _ => exact tw_164
  | 1, _ => exact tw_166
  | 2, _ => exact tw_168
  | 3, _ => exact tw_170
def T_BX : u_T := fun k => match k with
  | 0 => ("PageMaker$Box", "height", "I", true)
  | _ => ("PageMaker$Box", "depth", "I", true)
def ty_BX : Nat → FieldType := fun k => match k with
  | 0 => .int
  | _ => .int
theorem nm_BX : ∀ a, a < 2 → ∀ b, b < 2 → a ≠ b → (T_BX a).2.1 ≠ (T_BX b).2.1 := by decide +kernel
theorem to_BX : ∀ k, k < 2 → parseFieldDescriptor (T_BX k).2.2.1 = some (ty_BX k) := by decide +kernel
theorem in_BX : ∀ w ∈ u_ws "PageMaker$Box" T_BX 2, w ∈ TB := by
  intro w h
  obtain ⟨k, hk, rfl⟩ := List.mem_map.mp h
  have hk := List.mem_range.mp hk
  match k, hk with
  | 0, _ => exact tw_311
  | 1, _ => exact tw_313
def T_GL : u_T := fun k => match k with
  | 0 => ("PageMaker$Glue", "width", "I", true)
  | 1 => ("PageMaker$Glue", "stretch", "I", true)
  | 2 => ("PageMaker$Glue", "order", "I", true)
  | _ => ("PageMaker$Glue", "shrink", "I", true)
def ty_GL : Nat → FieldType := fun k => match k with
  | 0 => .int
  | 1 => .int
  | 2 => .int
  | _ => .int
theorem nm_GL : ∀ a, a < 4 → ∀ b, b < 4 → a ≠ b → (T_GL a).2.1 ≠ (T_GL b).2.1 := by decide +kernel
theorem to_GL : ∀ k, k < 4 → parseFieldDescriptor (T_GL k).2.2.1 = some (ty_GL k) := by decide +kernel
theorem in_GL : ∀ w ∈ u_ws "PageMaker$Glue" T_GL 4, w ∈ TB := by
  intro w h
  obtain ⟨k, hk, rfl⟩ := List.mem_map.mp h
  have hk := List.mem_range.mp hk
  match k, hk with
  | 0, _ => exact tw_558
  | 1, _ => exact tw_560
  | 2, _ => exact tw_562
  | 3, _ => exact tw_564
def T_KE : u_T := fun k => match k with
  | _ => ("PageMaker$Kern", "width", "I", true)
def ty_KE : Nat → FieldType := fun k => match k with
  | _ => .int
theorem nm_KE : ∀ a, a < 1 → ∀ b, b < 1 → a ≠ b → (T_KE a).2.1 ≠ (T_KE b).2.1 := by decide +kernel
theorem to_KE : ∀ k, k < 1 → parseFieldDescriptor (T_KE k).2.2.1 = some (ty_KE k) := by decide +kernel
theorem in_KE : ∀ w ∈ u_ws "PageMaker$Kern" T_KE 1, w ∈ TB := by
  intro w h
  obtain ⟨k, hk, rfl⟩ := List.mem_map.mp h
  have hk := List.mem_range.mp hk
  match k, hk with
  | 0, _ => exact tw_581
def T_PE : u_T := fun k => match k with
  | _ => ("PageMaker$Penalty", "p", "I", true)
def ty_PE : Nat → FieldType := fun k => match k with
  | _ => .int
theorem nm_PE : ∀ a, a < 1 → ∀ b, b < 1 → a ≠ b → (T_PE a).2.1 ≠ (T_PE b).2.1 := by decide +kernel
theorem to_PE : ∀ k, k < 1 → parseFieldDescriptor (T_PE k).2.2.1 = some (ty_PE k) := by decide +kernel
theorem in_PE : ∀ w ∈ u_ws "PageMaker$Penalty" T_PE 1, w ∈ TB := by
  intro w h
  obtain ⟨k, hk, rfl⟩ := List.mem_map.mp h
  have hk := List.mem_range.mp hk
  match k, hk with
  | 0, _ => exact tw_600
def T_EP : u_T := fun k => match k with
  | 0 => ("PageMaker$EndedPage", "frame", "LPageMaker$Frame;", true)
  | 1 => ("PageMaker$EndedPage", "first", "I", true)
  | 2 => ("PageMaker$EndedPage", "bestItem", "I", true)
  | 3 => ("PageMaker$EndedPage", "cost", "I", true)
  | 4 => ("PageMaker$EndedPage", "badness", "I", true)
  | 5 => ("PageMaker$EndedPage", "endingItem", "I", true)
  | 6 => ("PageMaker$EndedPage", "excess", "J", true)
  | 7 => ("PageMaker$EndedPage", "order", "I", true)
  | _ => ("PageMaker$EndedPage", "total", "J", true)
def ty_EP : Nat → FieldType := fun k => match k with
  | 0 => .object "PageMaker$Frame"
  | 1 => .int
  | 2 => .int
  | 3 => .int
  | 4 => .int
  | 5 => .int
  | 6 => .long
  | 7 => .int
  | _ => .long
theorem nm_EP : ∀ a, a < 9 → ∀ b, b < 9 → a ≠ b → (T_EP a).2.1 ≠ (T_EP b).2.1 := by decide +kernel
theorem to_EP : ∀ k, k < 9 → parseFieldDescriptor (T_EP k).2.2.1 = some (ty_EP k) := by decide +kernel
theorem in_EP : ∀ w ∈ u_ws "PageMaker$EndedPage" T_EP 9, w ∈ TB := by
  intro w h
  obtain ⟨k, hk, rfl⟩ := List.mem_map.mp h
  have hk := List.mem_range.mp hk
  match k, hk with
  | 0, _ => exact tw_506
  | 1, _ => exact tw_508
  | 2, _ => exact tw_510
  | 3, _ => exact tw_512
  | 4, _ => exact tw_514
  | 5, _ => exact tw_516
  | 6, _ => exact tw_518
  | 7, _ => exact tw_520
  | 8, _ => exact tw_522
def T_MD : u_T := fun k => match k with
  | 0 => ("PageMakerModel", "thrown", "I", false)
  | 1 => ("PageMakerModel", "kinds", "[I", true)
  | 2 => ("PageMakerModel", "one", "[I", true)
  | 3 => ("PageMakerModel", "two", "[I", true)
  | 4 => ("PageMakerModel", "three", "[I", true)
  | 5 => ("PageMakerModel", "order", "[I", true)
  | 6 => ("PageMakerModel", "count", "I", false)
  | 7 => ("PageMakerModel", "height", "I", false)
  | 8 => ("PageMakerModel", "top", "I", false)
  | 9 => ("PageMakerModel", "greatest", "I", false)
  | 10 => ("PageMakerModel", "heights", "[I", true)
  | 11 => ("PageMakerModel", "tops", "[I", true)
  | 12 => ("PageMakerModel", "depths", "[I", true)
  | 13 => ("PageMakerModel", "firsts", "[I", true)
  | 14 => ("PageMakerModel", "ends", "[I", true)
  | 15 => ("PageMakerModel", "costs", "[I", true)
  | 16 => ("PageMakerModel", "enders", "[I", true)
  | 17 => ("PageMakerModel", "pages", "I", false)
  | 18 => ("PageMakerModel", "begin", "I", false)
  | 19 => ("PageMakerModel", "isOpen", "Z", false)
  | 20 => ("PageMakerModel", "best", "I", false)
  | 21 => ("PageMakerModel", "least", "I", false)
  | 22 => ("PageMakerModel", "length", "J", false)
  | 23 => ("PageMakerModel", "depth", "J", false)
  | 24 => ("PageMakerModel", "stretch", "[J", true)
  | _ => ("PageMakerModel", "shrink", "J", false)
def ty_MD : Nat → FieldType := fun k => match k with
  | 0 => .int
  | 1 => .array .int
  | 2 => .array .int
  | 3 => .array .int
  | 4 => .array .int
  | 5 => .array .int
  | 6 => .int
  | 7 => .int
  | 8 => .int
  | 9 => .int
  | 10 => .array .int
  | 11 => .array .int
  | 12 => .array .int
  | 13 => .array .int
  | 14 => .array .int
  | 15 => .array .int
  | 16 => .array .int
  | 17 => .int
  | 18 => .int
  | 19 => .boolean
  | 20 => .int
  | 21 => .int
  | 22 => .long
  | 23 => .long
  | 24 => .array .long
  | _ => .long
theorem nm_MD : ∀ a, a < 26 → ∀ b, b < 26 → a ≠ b → (T_MD a).2.1 ≠ (T_MD b).2.1 := by decide +kernel
theorem to_MD : ∀ k, k < 26 → parseFieldDescriptor (T_MD k).2.2.1 = some (ty_MD k) := by decide +kernel
theorem in_MD : ∀ w ∈ u_ws "PageMakerModel" T_MD 26, w ∈ TB := by
  intro w h
  obtain ⟨k, hk, rfl⟩ := List.mem_map.mp h
  have hk := List.mem_range.mp hk
  match k, hk with
  | 0, _ => exact tw_708
  | 1, _ => exact tw_710
  | 2, _ => exact tw_712
  | 3, _ => exact tw_714
  | 4, _ => exact tw_716
  | 5, _ => exact tw_718
  | 6, _ => exact tw_720
  | 7, _ => exact tw_722
  | 8, _ => exact tw_724
  | 9, _ => exact tw_726
  | 10, _ => exact tw_728
  | 11, _ => exact tw_730
  | 12, _ => exact tw_732
  | 13, _ => exact tw_734
  | 14, _ => exact tw_736
  | 15, _ => exact tw_738
  | 16, _ => exact tw_740
  | 17, _ => exact tw_742
  | 18, _ => exact tw_744
  | 19, _ => exact tw_746
  | 20, _ => exact tw_748
  | 21, _ => exact tw_750
  | 22, _ => exact tw_752
  | 23, _ => exact tw_754
  | 24, _ => exact tw_756
  | 25, _ => exact tw_758
  | k + 26, h9 => exact absurd h9 (by omega)
abbrev cls9 : List vw_C := [("java/util/ArrayList", T_AL, 3), ("PageMaker$Frame", T_FR, 3), ("PageMaker$OpenPage", T_OP, 8), ("PageMaker$Totals", T_TO, 4), ("PageMaker", T_PM, 4), ("PageMaker$Box", T_BX, 2), ("PageMaker$Glue", T_GL, 4), ("PageMaker$Kern", T_KE, 1), ("PageMaker$Penalty", T_PE, 1), ("PageMaker$EndedPage", T_EP, 9), ("PageMakerModel", T_MD, 26)]
end
section
/-! POOL WORLDS: the world of a method is X ++ va_pl L f: some fixed cells X, and a pool: the addresses L, each with what f says. Rows of the kit, said of pools: the pool's new f comes with a name and an equation. -/
section PZA
theorem pz_rng (X : va_W) : (List.range X.length).map (fun i => X[i]?) = X.map some := by
  apply List.ext_getElem?
  intro j
  rw [List.getElem?_map, List.getElem?_map]
  by_cases h : j < X.length
  · rw [List.getElem?_range h, List.getElem?_eq_getElem h]
    simp [List.getElem?_eq_getElem h]
  · rw [List.getElem?_eq_none (by rw [List.length_range]; omega), List.getElem?_eq_none (by omega)]
    rfl
theorem pz_nd_cons (a : Nat) (l : List Nat) : va_nd (a :: l) = (decide (a ∉ l) && va_nd l) := by
  simp [va_nd]
theorem pz_nd : ∀ (l : List Nat), l.Nodup → va_nd l = true
  | [], _ => rfl
  | a :: l, h => by
    rw [pz_nd_cons, Bool.and_eq_true, decide_eq_true_eq]
    exact ⟨(List.nodup_cons.mp h).1, pz_nd l (List.nodup_cons.mp h).2⟩
theorem pz_up_same {α : Type} (f : Nat → α) (a : Nat) : va_up f a (f a) = f := by
  funext j
  by_cases h : j = a
  · subst h
    exact va_up_self _ _ _
  · exact va_up_ne _ _ h
theorem pz_up_comm {α : Type} (f : Nat → α) {a b : Nat} (v w : α) (h : a ≠ b) : va_up (va_up f a v) b w = va_up (va_up f b w) a v := by
  funext j
  by_cases h1 : j = a
  · subst h1
    rw [va_up_ne _ _ h, va_up_self, va_up_self]
  · by_cases h2 : j = b
    · subst h2
      rw [va_up_self, va_up_ne _ _ h1, va_up_self]
    · rw [va_up_ne _ _ h2, va_up_ne _ _ h1, va_up_ne _ _ h1, va_up_ne _ _ h2]
end PZA
section PZB
variable {p : Program} {l : Launch} {e : Env} {R : Room} {s : State} {m : MethodId} {args : Array Value} {below : List Frame} {meth : Method} {c : Code} {H : Heap} {locs : List Loc} {cells slots : Nat} {Q : State → Prop}
variable {cc : ByteArray} {pc : Nat} {ls : Array Slot} {rest : List Value} {D : va_G} {cl : List vw_C} {A : Nat → Prop} {a : Nat} {tys : List (ClassId × FieldType)} {X : va_W} {L : List Nat} {f : Nat → va_E} {H0 : Heap}
theorem pz_at {e0 : va_E} (ha : a ∈ L) (hf : f a = e0) : ∃ k : Nat, (X ++ va_pl L f)[k]? = some (a, e0) := by
  obtain ⟨k, hk⟩ := va_pl_get (X := X) (f := f) ha
  exact ⟨k, by rw [hk, hf]⟩
theorem pz_set {e0 e1 : va_E} {k : Nat} (hD : va_D A (X ++ va_pl L f)) (ha : a ∈ L) (hf : f a = e0) (hk : (X ++ va_pl L f)[k]? = some (a, e0)) : (X ++ va_pl L f).set k (a, e1) = X ++ va_pl L (va_up f a e1) := va_pl_set hD ha (by rw [hk, hf])
theorem pz_push {q : Nat} {e0 : va_E} (h : q ∉ L) : (X ++ va_pl L f) ++ [(q, e0)] = X ++ va_pl (L ++ [q]) (va_up f q e0) := by
  rw [List.append_assoc, va_pl_push h]
theorem pz_get (hexec : p.tables.exec = Jvm.exec) (hb : c.code = cc) {own ref C : String} {T : u_T} {N ci index : Nat} {Ts : List Cond} (hts : ∀ w ∈ Ts, w.before args s = true) (hin : ∀ w ∈ u_ws C T N, w ∈ Ts) (hown : s.vm.findClass own = some m.cls) (hK : va_K D cl tys s) (hP : va_P D cl (X ++ va_pl L f) H) {fs : List Value} (ha : a ∈ L) (hf : f a = .inr (ci, fs)) (hc : cl[ci]? = some (C, T, N)) (k : Nat) (hk : k < N) (hlink : (Cond.fieldLink own index ref (T k).2.1 (T k).2.2.1).before args s = true) (hsame : ∀ x, s.fieldFound? (T k).1 (T k).2.1 (T k).2.2.1 = some x → s.fieldFound? ref (T k).2.1 (T k).2.2.1 = some x) {v : Value} (hv : fs[k]? = some v) (hdg : decode cc pc = .ok (.getfield index, 3))
    (kk : W p l e R s m args below meth c H locs cells slots Q (F0 m (pc + 3) ls (v :: rest))) : W p l e R s m args below meth c H locs cells slots Q (F0 m pc ls (.ref a :: rest)) := by
  obtain ⟨q0, he⟩ := pz_at (X := X) ha hf
  exact va_get hexec hb hts hin hown hK hP q0 he hc k hk hlink hsame hv hdg kk
theorem pz_put (hexec : p.tables.exec = Jvm.exec) (hb : c.code = cc) {own ref C : String} {T : u_T} {N ci index : Nat} {Ts : List Cond} (hts : ∀ w ∈ Ts, w.before args s = true) (hin : ∀ w ∈ u_ws C T N, w ∈ Ts) (ty0 : Nat → FieldType) (hty : ∀ k, k < N → parseFieldDescriptor (T k).2.2.1 = some (ty0 k)) (hnm : ∀ a, a < N → ∀ b, b < N → a ≠ b → (T a).2.1 ≠ (T b).2.1) (hown : s.vm.findClass own = some m.cls) (hK : va_K D cl tys s) (hP : va_P D cl (X ++ va_pl L f) H) (hD : va_D A (X ++ va_pl L f)) (hS0 : va_S A H0 H locs) {fs : List Value} (ha : a ∈ L) (hf : f a = .inr (ci, fs)) (hc : cl[ci]? = some (C, T, N)) (k : Nat) (hk : k < N) (hlink : (Cond.fieldLink own index ref (T k).2.1 (T k).2.2.1).before args s = true) (hsame : ∀ x, s.fieldFound? (T k).1 (T k).2.1 (T k).2.2.1 = some x → s.fieldFound? ref (T k).2.1 (T k).2.2.1 = some x) (hfin : (T k).2.2.2 = false) {ty : FieldType} {v : Value} (hd : parseFieldDescriptor (T k).2.2.1 = some ty) (hn : narrow ty v = v) (hfit : fits ty v = true) (hl : k < fs.length)
    (hdg : decode cc pc = .ok (.putfield index, 3)) (kk : ∀ (f1 : Nat → va_E) (H1 : Heap) (locs1 : List Loc), f1 = va_up f a (.inr (ci, fs.set k v)) → va_P D cl (X ++ va_pl L f1) H1 → va_D A (X ++ va_pl L f1) → va_S A H0 H1 locs1 → W p l e R s m args below meth c H1 locs1 cells slots Q (F0 m (pc + 3) ls rest)) : W p l e R s m args below meth c H locs cells slots Q (F0 m pc ls (v :: .ref a :: rest)) := by
  obtain ⟨q0, he⟩ := pz_at (X := X) ha hf
  refine va_put hexec hb hts hin ty0 hty hnm hown hK hP hD hS0 q0 he hc k hk hlink hsame hfin hd hn hfit hl hdg (fun H1 locs1 hP1 hD1 hS1 => ?_)
  rw [pz_set hD ha hf he] at hP1 hD1
  exact kk _ H1 locs1 rfl hP1 hD1 hS1
theorem pz_putF (hexec : p.tables.exec = Jvm.exec) (hb : c.code = cc) {own ref C : String} {T : u_T} {N ci index : Nat} {Ts : List Cond} (hts : ∀ w ∈ Ts, w.before args s = true) (hin : ∀ w ∈ u_ws C T N, w ∈ Ts) (ty0 : Nat → FieldType) (hty : ∀ k, k < N → parseFieldDescriptor (T k).2.2.1 = some (ty0 k)) (hnm : ∀ a, a < N → ∀ b, b < N → a ≠ b → (T a).2.1 ≠ (T b).2.1) (hown : s.vm.findClass own = some m.cls) (hK : va_K D cl tys s) (hP : va_P D cl (X ++ va_pl L f) H) (hD : va_D A (X ++ va_pl L f)) (hS0 : va_S A H0 H locs) {fs : List Value} (ha : a ∈ L) (hf : f a = .inr (ci, fs)) (hc : cl[ci]? = some (C, T, N)) (k : Nat) (hk : k < N) (hlink : (Cond.fieldLink own index ref (T k).2.1 (T k).2.2.1).before args s = true) (hsame : ∀ x, s.fieldFound? (T k).1 (T k).2.1 (T k).2.2.1 = some x → s.fieldFound? ref (T k).2.1 (T k).2.2.1 = some x) (hfin : (T k).2.2.2 = true) (hin2 : meth.name = "<init>") (hdecl : (T k).1 = own) {ty : FieldType} {v : Value} (hd : parseFieldDescriptor (T k).2.2.1 = some ty) (hn : narrow ty v = v) (hfit : fits ty v = true) (hl : k < fs.length)
    (hdg : decode cc pc = .ok (.putfield index, 3)) (kk : ∀ (f1 : Nat → va_E) (H1 : Heap) (locs1 : List Loc), f1 = va_up f a (.inr (ci, fs.set k v)) → va_P D cl (X ++ va_pl L f1) H1 → va_D A (X ++ va_pl L f1) → va_S A H0 H1 locs1 → W p l e R s m args below meth c H1 locs1 cells slots Q (F0 m (pc + 3) ls rest)) : W p l e R s m args below meth c H locs cells slots Q (F0 m pc ls (v :: .ref a :: rest)) := by
  obtain ⟨q0, he⟩ := pz_at (X := X) ha hf
  refine va_putF hexec hb hts hin ty0 hty hnm hown hK hP hD hS0 q0 he hc k hk hlink hsame hfin hin2 hdecl hd hn hfit hl hdg (fun H1 locs1 hP1 hD1 hS1 => ?_)
  rw [pz_set hD ha hf he] at hP1 hD1
  exact kk _ H1 locs1 rfl hP1 hD1 hS1
theorem pz_new (hexec : p.tables.exec = Jvm.exec) (hb : c.code = cc) {own C : String} {T : u_T} {N ci index : Nat} {Ts : List Cond} (hts : ∀ w ∈ Ts, w.before args s = true) (hin : ∀ w ∈ u_ws C T N, w ∈ Ts) (ty : Nat → FieldType) (hty : ∀ k, k < N → parseFieldDescriptor (T k).2.2.1 = some (ty k)) (hown : s.vm.findClass own = some m.cls) (hcl : (Cond.classLink own index C).before args s = true) (hinst : (Cond.instantiable C N).before args s = true) (hini : (Cond.initialized C).before args s = true)
    (hK : va_K D cl tys s) (hP : va_P D cl (X ++ va_pl L f) H) (hD : va_D A (X ++ va_pl L f)) (hS : va_S A H0 H locs) (hA : ∀ q, H0.size ≤ q → A q) (hc : cl[ci]? = some (C, T, N)) {fs : List Value} (hfs : ∀ j, j < N → defaultValue (ty j) = vp_V fs j) (hcells : cells + 1 ≤ R.cells) (hslots : slots + N ≤ R.slots) (hdg : decode cc pc = .ok (.new index, 3))
    (kk : ∀ (q : Nat) (L1 : List Nat) (f1 : Nat → va_E) (H1 : Heap), q ∉ L → L1 = L ++ [q] → f1 = va_up f q (.inr (ci, fs)) → va_P D cl (X ++ va_pl L1 f1) H1 → va_D A (X ++ va_pl L1 f1) → va_S A H0 H1 locs →
      W p l e R s m args below meth c H1 locs (cells + 1) (slots + N) Q (F0 m (pc + 3) ls (.ref q :: rest))) : W p l e R s m args below meth c H locs cells slots Q (F0 m pc ls rest) := by
  refine va_new hexec hb hts hin ty hty hown hcl hinst hini hK hP hD hS hA hc hfs hcells hslots hdg (fun q H1 hP1 hD1 hS1 => ?_)
  have hq : q ∉ L := va_pl_fresh2 hD1
  rw [pz_push hq] at hP1 hD1
  exact kk q _ _ H1 hq rfl rfl hP1 hD1 hS1
theorem pz_lald (hexec : p.tables.exec = Jvm.exec) (hb : c.code = cc) (hK : va_K D cl tys s) (hP : va_P D cl (X ++ va_pl L f) H) (t0 : Nat) {cA : ClassId} {n : Nat} {g : Nat → Int64} (ha : a ∈ L) (hf : f a = .inl (cA, n, .inr (.inl g))) (ht : tys[t0]? = some (cA, .long)) {i : Int32} (hin : vp_in i n) (hdg : decode cc pc = .ok (.laload, 1))
    (kk : W p l e R s m args below meth c H locs cells slots Q (F0 m (pc + 1) ls (.long (g i.toNatClampNeg) :: rest))) : W p l e R s m args below meth c H locs cells slots Q (F0 m pc ls (.int i :: .ref a :: rest)) := by
  obtain ⟨q0, he⟩ := pz_at (X := X) ha hf
  exact va_lald hexec hb hK hP q0 t0 he ht hin hdg kk
theorem pz_last (hexec : p.tables.exec = Jvm.exec) (hb : c.code = cc) (hK : va_K D cl tys s) (hP : va_P D cl (X ++ va_pl L f) H) (hD : va_D A (X ++ va_pl L f)) (hS : va_S A H0 H locs) (t0 : Nat) {cA : ClassId} {n : Nat} {g : Nat → Int64} (ha : a ∈ L) (hf : f a = .inl (cA, n, .inr (.inl g))) (ht : tys[t0]? = some (cA, .long)) {i : Int32} {x : Int64} (hin : vp_in i n) (hdg : decode cc pc = .ok (.lastore, 1))
    (kk : ∀ (f1 : Nat → va_E) (H1 : Heap) (locs1 : List Loc), f1 = va_up f a (.inl (cA, n, .inr (.inl (vp_updL g i.toNatClampNeg x)))) → va_P D cl (X ++ va_pl L f1) H1 → va_D A (X ++ va_pl L f1) → va_S A H0 H1 locs1 → W p l e R s m args below meth c H1 locs1 cells slots Q (F0 m (pc + 1) ls rest)) : W p l e R s m args below meth c H locs cells slots Q (F0 m pc ls (.long x :: .int i :: .ref a :: rest)) := by
  obtain ⟨q0, he⟩ := pz_at (X := X) ha hf
  refine va_last hexec hb hK hP hD hS q0 t0 he ht hin hdg (fun H1 locs1 hP1 hD1 hS1 => ?_)
  rw [pz_set hD ha hf he] at hP1 hD1
  exact kk _ H1 locs1 rfl hP1 hD1 hS1
theorem pz_aldq (hexec : p.tables.exec = Jvm.exec) (hb : c.code = cc) (hK : va_K D cl tys s) (hP : va_P D cl (X ++ va_pl L f) H) (t0 : Nat) {cA : ClassId} {C : String} {n : Nat} {g : Nat → Option Nat} (ha : a ∈ L) (hf : f a = .inl (cA, n, .inr (.inr (.inr (.inr g))))) (ht : tys[t0]? = some (cA, .object C)) {i : Int32} (hin : vp_in i n) (hdg : decode cc pc = .ok (.aaload, 1))
    (kk : W p l e R s m args below meth c H locs cells slots Q (F0 m (pc + 1) ls (va_rf (g i.toNatClampNeg) :: rest))) : W p l e R s m args below meth c H locs cells slots Q (F0 m pc ls (.int i :: .ref a :: rest)) := by
  obtain ⟨q0, he⟩ := pz_at (X := X) ha hf
  exact va_aldq hexec hb hK hP q0 t0 he ht hin hdg kk
theorem pz_astq (hexec : p.tables.exec = Jvm.exec) (hb : c.code = cc) (hK : va_K D cl tys s) (hP : va_P D cl (X ++ va_pl L f) H) (hD : va_D A (X ++ va_pl L f)) (hS : va_S A H0 H locs) (t0 : Nat) {E : String} {cA : ClassId} {n v : Nat} {g : Nat → Option Nat} (ha : a ∈ L) (hf : f a = .inl (cA, n, .inr (.inr (.inr (.inr g))))) (ht : tys[t0]? = some (cA, .object E)) (hr : va_Any E s H v) {i : Int32} (hin : vp_in i n) (hdg : decode cc pc = .ok (.aastore, 1))
    (kk : ∀ (f1 : Nat → va_E) (H1 : Heap) (locs1 : List Loc), f1 = va_up f a (.inl (cA, n, .inr (.inr (.inr (.inr (va_up g i.toNatClampNeg (some v))))))) → va_P D cl (X ++ va_pl L f1) H1 → va_D A (X ++ va_pl L f1) → va_S A H0 H1 locs1 → W p l e R s m args below meth c H1 locs1 cells slots Q (F0 m (pc + 1) ls rest)) : W p l e R s m args below meth c H locs cells slots Q (F0 m pc ls (.ref v :: .int i :: .ref a :: rest)) := by
  obtain ⟨q0, he⟩ := pz_at (X := X) ha hf
  refine va_astqM hexec hb hK hP hD hS q0 t0 he ht hr hin hdg (fun H1 locs1 hP1 hD1 hS1 => ?_)
  rw [pz_set hD ha hf he] at hP1 hD1
  exact kk _ H1 locs1 rfl hP1 hD1 hS1
theorem pz_recv {ci : Nat} {q : vw_C} {fs : List Value} (hK : va_K D cl tys s) (hP : va_P D cl (X ++ va_pl L f) H) (hc : cl[ci]? = some q) (ha : a ∈ L) (hf : f a = .inr (ci, fs)) : ∃ cell : Cell, H[a]? = some cell ∧ cell.vm.isStatics = false ∧ s.vm.findClass q.1 = some cell.cls := by
  obtain ⟨q0, he⟩ := pz_at (X := X) ha hf
  exact va_recv hK hP hc he
end PZB
end
section
/-! CONTRACTS OVER POOLS: their start (pz_Pc), their end (pz_B), the entry of a method, its returns, calls. Z is what is known of static fields outside the pool. -/
section PZC
abbrev pz_U : Type := List Nat × (Nat → va_E)
abbrev pz_Zt : Type := (Nat → Prop) → State → Heap → Prop
def pz_Zok (Z : pz_Zt) : Prop := (∀ (A : Nat → Prop) (u U : State) (H : Heap), u.WarmedH U.vm → Z A u H → Z A U H) ∧ (∀ (A : Nat → Prop) (U : State) (H H1 : Heap), Z A U H → (∀ a : Nat, a < H.size → ¬ A a → H1[a]? = H[a]?) → Z A U H1) ∧ (∀ (A B : Nat → Prop) (U : State) (H : Heap), Z A U H → (∀ q, B q → A q) → Z B U H)
def pz_B (D : va_G) (cl : List vw_C) (tys : List (ClassId × FieldType)) (A : Nat → Prop) (u : pz_U) (t : State) : Prop := va_P D cl (va_pl u.1 u.2) t.heap ∧ va_K D cl tys t ∧ va_D A (va_pl u.1 u.2)
def pz_Pc (Z : pz_Zt) (D : va_G) (cl : List vw_C) (tys : List (ClassId × FieldType)) (L : List Nat) (f : Nat → va_E) (sz : Nat) (av : List Value) : Array Value → State → Prop := va_Pc av (fun U => U.heap.size = sz ∧ va_P D cl (va_pl L f) U.heap ∧ va_K D cl tys U ∧ va_D (fun _ => True) (va_pl L f) ∧ Z (va_A (va_pl L f) sz) U U.heap)
theorem pz_blind {Z : pz_Zt} (hZ : pz_Zok Z) {D : va_G} {cl : List vw_C} {tys : List (ClassId × FieldType)} {L : List Nat} {f : Nat → va_E} {sz : Nat} {av : List Value} : FrameBlind (pz_Pc Z D cl tys L f sz av) := fun a U g mk q => by
  obtain ⟨q0, q1, qP, qK, qD, qZ⟩ := q
  exact ⟨q0, q1, qP, va_K.moved (u := U) (U := U.calling g mk a) (Vm.Alike.refl U.vm) qK, qD, hZ.1 _ U (U.calling g mk a) _ (State.WarmedH.refl U) qZ⟩
end PZC
section PZD
variable {p : Program} {l : Launch} {e : Env} {R : Room} {s : State} {m : MethodId} {args : Array Value} {below : List Frame} {meth : Method} {c : Code} {H : Heap} {locs : List Loc} {cells slots : Nat} {Q : State → Prop}
variable {cc : ByteArray} {pc : Nat} {ls : Array Slot} {rest st0 : List Value} {D : va_G} {cl : List vw_C} {A : Nat → Prop} {a : Nat} {tys : List (ClassId × FieldType)} {X : va_W} {L L1 : List Nat} {f f1 : Nat → va_E} {H0 : Heap} {Z : pz_Zt} {sz mc ms : Nat} {av : List Value} {aa : Array Value}
theorem pz_sub (hD : va_D A (X ++ va_pl L f)) (hS : va_S A H0 H locs) (hA : ∀ q, H0.size ≤ q → A q) : ∀ q, va_A (va_pl L f) H.size q → A q := va_freeP (cx := []) hD hS hA [] rfl
theorem pz_pre (hZ : pz_Zok Z) (hK : va_K D cl tys s) (hP : va_P D cl (X ++ va_pl L f) H) (hD : va_D A (X ++ va_pl L f)) (hS : va_S A s.heap H locs) (hA : ∀ q, s.heap.size ≤ q → A q) (hz : Z A s s.heap) : PreS s H (pz_Pc Z D cl tys L f H.size av) av := by
  refine ⟨pz_blind hZ, fun U hU hW => ⟨rfl, by rw [hU], ?_, va_K.moved hW.alike hK, ?_, ?_⟩⟩
  · rw [hU]
    exact hP.part (cx := []) [] rfl
  · exact (hD.part (cx := []) [] rfl rfl).weaken (fun _ _ _ _ => trivial)
  · have h1 : Z A s H := hZ.2.1 _ _ _ _ hz hS.2.1
    have h2 : Z (va_A (va_pl L f) H.size) s H := hZ.2.2 _ _ _ _ h1 (pz_sub hD hS hA)
    rw [hU]
    exact hZ.1 _ _ _ _ hW h2
theorem pz_preV {C : String} {b : Nat} {As : List Value} (hZ : pz_Zok Z) (hK : va_K D cl tys s) (hP : va_P D cl (X ++ va_pl L f) H) (hD : va_D A (X ++ va_pl L f)) (hS : va_S A s.heap H locs) (hA : ∀ q, s.heap.size ≤ q → A q) (hz : Z A s s.heap) {ci : Nat} {r : vw_C} {fs : List Value} (hc : cl[ci]? = some r) (hC : r.1 = C) (hb : b ∈ L) (hf : f b = .inr (ci, fs)) : PreV s H C b (pz_Pc Z D cl tys L f H.size (.ref b :: As)) As := by
  subst hC
  exact ⟨pz_blind hZ, pz_recv hK hP hc hb hf, (pz_pre (av := .ref b :: As) hZ hK hP hD hS hA hz).2⟩
theorem pz_met {y : MethodName} {ws ws' : List Cond} {rm : Room} {Qc : Array Value → State → Outcome → State → Prop} {free : Addr → Prop} {maxL : Nat} {ret : Option FieldType} (hy : plainName y.cls = true) (hw : ws = Cond.code y cc maxL ret :: ws') (hlen : (lg_sl av).length ≤ maxL)
    (body : ∀ (p : Program) (e : Env) (s : State) (m : MethodId) (below : List Frame) (meth : Method) (c : Code) (ls : Array Slot), p.tables.exec = Jvm.exec → c.code = cc → meth.sig.returnType = ret → c.maxLocals = maxL → (∀ w ∈ ws, w.before av.toArray s = true) → s.vm.findClass y.cls = some m.cls → meth.locks = false → meth.name = y.name → s.heap.size = sz → va_K D cl tys s → va_P D cl ([] ++ va_pl L f) s.heap → va_D (va_A (va_pl L f) sz) ([] ++ va_pl L f) → va_S (va_A (va_pl L f) sz) s.heap s.heap [] → (∀ q, s.heap.size ≤ q → va_A (va_pl L f) sz q) → Z (va_A (va_pl L f) sz) s s.heap → lv_has ls maxL (lv_args 0 av) →
      W p l e rm s m av.toArray below meth c s.heap [] 0 0 (MQ below Qc av.toArray s mc ms free) (F0 m 0 ls [])) : Met l y ws rm (pz_Pc Z D cl tys L f sz av) Qc mc ms free := by
  refine Met.ofW (cc := cc) (maxL := maxL) (ret := ret) hy hw ?_
  intro p e s m args below meth c s₁ B hml hv
  obtain ⟨rfl, hsz, hP, hK, hD0, hz⟩ := hv
  rw [lg_entry_eq]
  exact body p e s m below meth c _ B.exec B.bytes B.returns hml (atoms_spec (ws := ws) B.pre) (findClass_of_methodNamed B.named) B.notSynchronized (name_of_methodNamed B.named B.method).1 hsz hK hP hD0.self va_S.rf (fun q h => Or.inr (by rw [← hsz]; exact h)) hz (lv_entry av hlen)
/-- a method that reads no heap -/
theorem pz_metP {y : MethodName} {ws ws' : List Cond} {rm : Room} {Qc : Array Value → State → Outcome → State → Prop} {free : Addr → Prop} {maxL : Nat} {ret : Option FieldType} (hy : plainName y.cls = true) (hw : ws = Cond.code y cc maxL ret :: ws') (hlen : (lg_sl av).length ≤ maxL)
    (body : ∀ (p : Program) (e : Env) (s : State) (m : MethodId) (below : List Frame) (meth : Method) (c : Code) (ls : Array Slot), p.tables.exec = Jvm.exec → c.code = cc → meth.sig.returnType = ret → c.maxLocals = maxL → (∀ w ∈ ws, w.before av.toArray s = true) → s.vm.findClass y.cls = some m.cls → meth.locks = false → lv_has ls maxL (lv_args 0 av) →
      W p l e rm s m av.toArray below meth c s.heap [] 0 0 (MQ below Qc av.toArray s mc ms free) (F0 m 0 ls [])) : Met l y ws rm (fun v _ => v = av.toArray) Qc mc ms free := by
  refine Met.ofW (cc := cc) (maxL := maxL) (ret := ret) hy hw ?_
  intro p e s m args below meth c s₁ B hml hv
  subst hv
  rw [lg_entry_eq]
  exact body p e s m below meth c _ B.exec B.bytes B.returns hml (atoms_spec (ws := ws) B.pre) (findClass_of_methodNamed B.named) B.notSynchronized (lv_entry av hlen)
theorem pz_preP {As : List Value} : PreS s H (fun v _ => v = As.toArray) As := ⟨fun _ _ _ _ q => q, fun _ _ _ => rfl⟩
theorem pz_vret {post : pz_U → Prop} (hexec : p.tables.exec = Jvm.exec) (hb : c.code = cc) (hr : meth.sig.returnType = none) (hlocks : meth.locks = false) (hK : va_K D cl tys s) (hP : va_P D cl ([] ++ va_pl L1 f1) H) (hD : va_D A ([] ++ va_pl L1 f1)) (hS : va_S A s.heap H locs) (hc : cells ≤ mc) (hs : slots ≤ ms) (hp : post (L1, f1)) (hdg : decode cc pc = .ok (.return_, 1)) :
    W p l e R s m args below meth c H locs cells slots (MQ below (va_Qv post (pz_B D cl tys A) A) args s mc ms A) (F0 m pc ls []) := by
  refine W.widen (k := mc) (n := ms) hc hs ?_
  exact W.vret hexec hb hr (fun t ht hW => ⟨⟨(L1, f1), rfl, hp, by rw [ht]; exact hP, va_K.moved hW.alike hK, hD⟩, hS.F ht⟩) hS.2.2 hdg
theorem pz_iret {post : Int32 → pz_U → Prop} {v : Int32} {ty : FieldType} (hexec : p.tables.exec = Jvm.exec) (hb : c.code = cc) (hr : meth.sig.returnType = some ty) (hn : narrow ty (.int v) = .int v) (hlocks : meth.locks = false) (hK : va_K D cl tys s) (hP : va_P D cl ([] ++ va_pl L1 f1) H) (hD : va_D A ([] ++ va_pl L1 f1)) (hS : va_S A s.heap H locs) (hc : cells ≤ mc) (hs : slots ≤ ms) (hp : post v (L1, f1)) (hdg : decode cc pc = .ok (.ireturn, 1)) :
    W p l e R s m args below meth c H locs cells slots (MQ below (va_Qi post (pz_B D cl tys A) A) args s mc ms A) (F0 m pc ls [.int v]) := by
  refine W.widen (k := mc) (n := ms) hc hs ?_
  exact W.zret hexec hb hr hn (fun t ht hW => ⟨⟨v, (L1, f1), rfl, hp, by rw [ht]; exact hP, va_K.moved hW.alike hK, hD⟩, hS.F ht⟩) hS.2.2 hdg
theorem pz_lret {post : Int64 → pz_U → Prop} {v : Int64} (hexec : p.tables.exec = Jvm.exec) (hb : c.code = cc) (hr : meth.sig.returnType = some .long) (hlocks : meth.locks = false) (hK : va_K D cl tys s) (hP : va_P D cl ([] ++ va_pl L1 f1) H) (hD : va_D A ([] ++ va_pl L1 f1)) (hS : va_S A s.heap H locs) (hc : cells ≤ mc) (hs : slots ≤ ms) (hp : post v (L1, f1)) (hdg : decode cc pc = .ok (.lreturn, 1)) :
    W p l e R s m args below meth c H locs cells slots (MQ below (va_Ql post (pz_B D cl tys A) A) args s mc ms A) (F0 m pc ls [.long v]) := by
  refine W.widen (k := mc) (n := ms) hc hs ?_
  exact W.lret hexec hb hr (fun t ht hW => ⟨⟨v, (L1, f1), rfl, hp, by rw [ht]; exact hP, va_K.moved hW.alike hK, hD⟩, hS.F ht⟩) hS.2.2 hdg
/-- an answer that is a reference: which one comes with the pool -/
def pz_BR (D : va_G) (cl : List vw_C) (tys : List (ClassId × FieldType)) (A : Nat → Prop) (u : Nat × pz_U) (r : Nat) (t : State) : Prop := r = u.1 ∧ pz_B D cl tys A u.2 t
theorem pz_aret {post : Nat × pz_U → Prop} {v : Nat} {rt : FieldType} (hexec : p.tables.exec = Jvm.exec) (hb : c.code = cc) (hr : meth.sig.returnType = some rt) (hrt : (∃ n, rt = .object n) ∨ ∃ t, rt = .array t) (hlocks : meth.locks = false) (hK : va_K D cl tys s) (hP : va_P D cl ([] ++ va_pl L1 f1) H) (hD : va_D A ([] ++ va_pl L1 f1)) (hS : va_S A s.heap H locs) (hc : cells ≤ mc) (hs : slots ≤ ms) (hp : post (v, L1, f1)) (hdg : decode cc pc = .ok (.areturn, 1)) :
    W p l e R s m args below meth c H locs cells slots (MQ below (va_Qr post (pz_BR D cl tys A) A) args s mc ms A) (F0 m pc ls [.ref v]) := by
  refine W.widen (k := mc) (n := ms) hc hs ?_
  exact W.aret hexec hb hr hrt (Or.inr ⟨v, rfl⟩) (fun t ht hW => ⟨⟨(v, L1, f1), v, rfl, hp, rfl, by rw [ht]; exact hP, va_K.moved hW.alike hK, hD⟩, hS.F ht⟩) hS.2.2 hdg
/-- answers of methods that change nothing -/
theorem pz_iretS {post : Int32 → Prop} {v : Int32} {ty : FieldType} (hexec : p.tables.exec = Jvm.exec) (hb : c.code = cc) (hr : meth.sig.returnType = some ty) (hn : narrow ty (.int v) = .int v) (hlocks : meth.locks = false) (hp : post v) (hdg : decode cc pc = .ok (.ireturn, 1)) :
    W p l e R s m args below meth c s.heap [] 0 0 (MQ below (vp_Si post) args s 0 0 (fun _ => False)) (F0 m pc ls [.int v]) :=
  W.zret hexec hb hr hn (fun t ht hW => ⟨v, rfl, hp, ht⟩) (fun q h => by cases h) hdg
theorem pz_lretS {post : Int64 → Prop} {v : Int64} (hexec : p.tables.exec = Jvm.exec) (hb : c.code = cc) (hr : meth.sig.returnType = some .long) (hlocks : meth.locks = false) (hp : post v) (hdg : decode cc pc = .ok (.lreturn, 1)) :
    W p l e R s m args below meth c s.heap [] 0 0 (MQ below (vp_Sl post) args s 0 0 (fun _ => False)) (F0 m pc ls [.long v]) :=
  W.lret hexec hb hr (fun t ht hW => ⟨v, rfl, hp, ht⟩) (fun q h => by cases h) hdg
theorem pz_aretS {post : Option Nat → Prop} {r : Option Nat} {rt : FieldType} (hexec : p.tables.exec = Jvm.exec) (hb : c.code = cc) (hr : meth.sig.returnType = some rt) (hrt : (∃ n, rt = .object n) ∨ ∃ t, rt = .array t) (hlocks : meth.locks = false) (hp : post r) (hdg : decode cc pc = .ok (.areturn, 1)) :
    W p l e R s m args below meth c s.heap [] 0 0 (MQ below (va_Sq post) args s 0 0 (fun _ => False)) (F0 m pc ls [va_rf r]) :=
  W.aret hexec hb hr hrt (va_rf_or r) (fun t ht hW => ⟨r, rfl, hp, ht⟩) (fun q h => by cases h) hdg
/-- behind a call that had the pool -/
theorem pz_join {u : pz_U} {t : State} {H1 : Heap} (hP : va_P D cl (X ++ va_pl L f) H) (hD : va_D A (X ++ va_pl L f)) (hF : ∀ q, va_A (va_pl L f) H.size q → A q) (ht : t.heap = H1) (hB : pz_B D cl tys (va_A (va_pl L f) H.size) u t) (hk : ∀ q : Nat, q < H.size → ¬ va_A (va_pl L f) H.size q → H1[q]? = H[q]?) : va_P D cl (X ++ va_pl u.1 u.2) H1 ∧ va_D A (X ++ va_pl u.1 u.2) := by
  obtain ⟨hP1, -, hD1⟩ := hB
  rw [ht] at hP1
  have h := va_joinP (X := X) (cx := []) (wr := X) (rx := []) hP hD [] (List.range X.length) rfl (pz_rng X) (pz_nd _ List.nodup_range) (fun i _ h => by cases h) hk hF hP1 hD1
  rw [List.append_nil] at h
  exact h
theorem pz_cv {post : pz_U → Prop} (hr : va_Run p l e R s m args below meth c H locs cells slots mc ms (F0 m pc ls st0) rest (va_Qv post (pz_B D cl tys (va_A (va_pl L f) H.size)) (va_A (va_pl L f) H.size) aa) (va_A (va_pl L f) H.size)) (hP : va_P D cl (X ++ va_pl L f) H) (hD : va_D A (X ++ va_pl L f)) (hS : va_S A H0 H locs) (hA : ∀ q, H0.size ≤ q → A q)
    (kk : ∀ (L1 : List Nat) (f1 : Nat → va_E) (H1 : Heap) (locs1 : List Loc), post (L1, f1) → va_P D cl (X ++ va_pl L1 f1) H1 → va_D A (X ++ va_pl L1 f1) → va_S A H0 H1 locs1 → W p l e R s m args below meth c H1 locs1 (cells + mc) (slots + ms) Q (F0 m (pc + 3) ls rest)) : W p l e R s m args below meth c H locs cells slots Q (F0 m pc ls st0) := by
  have hF := pz_sub hD hS hA
  refine va_callv hr hS (fun q _ h => hF q h) hF (fun u t H1 locs1 ht hvm hw hB hz1 hk1 hS1 => ?_)
  obtain ⟨h1, h2⟩ := pz_join hP hD hF ht hB hk1
  exact kk u.1 u.2 H1 locs1 hw h1 h2 hS1
theorem pz_ci {post : Int32 → pz_U → Prop} (hr : va_Run p l e R s m args below meth c H locs cells slots mc ms (F0 m pc ls st0) rest (va_Qi post (pz_B D cl tys (va_A (va_pl L f) H.size)) (va_A (va_pl L f) H.size) aa) (va_A (va_pl L f) H.size)) (hP : va_P D cl (X ++ va_pl L f) H) (hD : va_D A (X ++ va_pl L f)) (hS : va_S A H0 H locs) (hA : ∀ q, H0.size ≤ q → A q)
    (kk : ∀ (r : Int32) (L1 : List Nat) (f1 : Nat → va_E) (H1 : Heap) (locs1 : List Loc), post r (L1, f1) → va_P D cl (X ++ va_pl L1 f1) H1 → va_D A (X ++ va_pl L1 f1) → va_S A H0 H1 locs1 → W p l e R s m args below meth c H1 locs1 (cells + mc) (slots + ms) Q (F0 m (pc + 3) ls (.int r :: rest))) : W p l e R s m args below meth c H locs cells slots Q (F0 m pc ls st0) := by
  have hF := pz_sub hD hS hA
  refine va_calli hr hS (fun q _ h => hF q h) hF (fun r u t H1 locs1 ht hvm hw hB hz1 hk1 hS1 => ?_)
  obtain ⟨h1, h2⟩ := pz_join hP hD hF ht hB hk1
  exact kk r u.1 u.2 H1 locs1 hw h1 h2 hS1
theorem pz_cl {post : Int64 → pz_U → Prop} (hr : va_Run p l e R s m args below meth c H locs cells slots mc ms (F0 m pc ls st0) rest (va_Ql post (pz_B D cl tys (va_A (va_pl L f) H.size)) (va_A (va_pl L f) H.size) aa) (va_A (va_pl L f) H.size)) (hP : va_P D cl (X ++ va_pl L f) H) (hD : va_D A (X ++ va_pl L f)) (hS : va_S A H0 H locs) (hA : ∀ q, H0.size ≤ q → A q)
    (kk : ∀ (r : Int64) (L1 : List Nat) (f1 : Nat → va_E) (H1 : Heap) (locs1 : List Loc), post r (L1, f1) → va_P D cl (X ++ va_pl L1 f1) H1 → va_D A (X ++ va_pl L1 f1) → va_S A H0 H1 locs1 → W p l e R s m args below meth c H1 locs1 (cells + mc) (slots + ms) Q (F0 m (pc + 3) ls (.long r :: rest))) : W p l e R s m args below meth c H locs cells slots Q (F0 m pc ls st0) := by
  have hF := pz_sub hD hS hA
  refine va_calll hr hS (fun q _ h => hF q h) hF (fun r u t H1 locs1 ht hvm hw hB hz1 hk1 hS1 => ?_)
  obtain ⟨h1, h2⟩ := pz_join hP hD hF ht hB hk1
  exact kk r u.1 u.2 H1 locs1 hw h1 h2 hS1
theorem pz_cr {post : Nat × pz_U → Prop} (hr : va_Run p l e R s m args below meth c H locs cells slots mc ms (F0 m pc ls st0) rest (va_Qr post (pz_BR D cl tys (va_A (va_pl L f) H.size)) (va_A (va_pl L f) H.size) aa) (va_A (va_pl L f) H.size)) (hP : va_P D cl (X ++ va_pl L f) H) (hD : va_D A (X ++ va_pl L f)) (hS : va_S A H0 H locs) (hA : ∀ q, H0.size ≤ q → A q)
    (kk : ∀ (r : Nat) (L1 : List Nat) (f1 : Nat → va_E) (H1 : Heap) (locs1 : List Loc), post (r, L1, f1) → va_P D cl (X ++ va_pl L1 f1) H1 → va_D A (X ++ va_pl L1 f1) → va_S A H0 H1 locs1 → W p l e R s m args below meth c H1 locs1 (cells + mc) (slots + ms) Q (F0 m (pc + 3) ls (.ref r :: rest))) : W p l e R s m args below meth c H locs cells slots Q (F0 m pc ls st0) := by
  have hF := pz_sub hD hS hA
  refine va_callr hr hS (fun q _ h => hF q h) hF (fun u ra t H1 locs1 ht hvm hw hB hz1 hk1 hS1 => ?_)
  obtain ⟨rfl, hB⟩ := hB
  obtain ⟨h1, h2⟩ := pz_join hP hD hF ht hB hk1
  exact kk u.1 u.2.1 u.2.2 H1 locs1 hw h1 h2 hS1
end PZD
end
section
/-! 'lcmp' and the branch behind it, in one row -/
section PZE
theorem pz_cmpP {x y : Int64} (h : y < x) : lg_cmp x y = 1 := by simp [lg_cmp, h]
theorem pz_cmp0 (x : Int64) : lg_cmp x x = 0 := by simp [lg_cmp]
theorem pz_cmpN {x y : Int64} (h : ¬ y < x) (h2 : ¬ x = y) : lg_cmp x y = -1 := by simp [lg_cmp, h, h2]
theorem pz_tri (x y : Int64) : y < x ∨ x = y ∨ x < y := by
  rw [Int64.lt_iff_toInt_lt, Int64.lt_iff_toInt_lt, ← Int64.toInt_inj]
  omega
theorem pz_ltN {x y : Int64} (h : x < y) : ¬ y < x ∧ ¬ x = y ∧ x ≤ y ∧ ¬ y ≤ x := by
  rw [Int64.lt_iff_toInt_lt] at h
  rw [Int64.lt_iff_toInt_lt, Int64.le_iff_toInt_le, Int64.le_iff_toInt_le, ← Int64.toInt_inj]
  omega
variable {p : Program} {l : Launch} {e : Env} {R : Room} {s : State} {m : MethodId} {args : Array Value} {below : List Frame} {meth : Method} {c : Code} {H : Heap} {locs : List Loc} {cells slots : Nat} {Q : State → Prop}
variable {cc : ByteArray} {pc : Nat} {ls : Array Slot} {rest : List Value} {x y : Int64} {off : Int} {tgt : Nat}
theorem pz_lle (hexec : p.tables.exec = Jvm.exec) (hb : c.code = cc) (d1 : decode cc pc = .ok (.lcmp, 1)) (d2 : decode cc (pc + 1) = .ok (.ifCond .le off, 3)) (ht : ((pc + 1 : Nat) : Int) + off = (tgt : Int)) (kt : x ≤ y → W p l e R s m args below meth c H locs cells slots Q (F0 m tgt ls rest)) (kf : y < x → W p l e R s m args below meth c H locs cells slots Q (F0 m (pc + 1 + 3) ls rest)) : W p l e R s m args below meth c H locs cells slots Q (F0 m pc ls (.long y :: .long x :: rest)) := by
  refine W.lcmp hexec hb d1 (lv_if_le hexec hb d2 ht (fun h => kt ?_) (fun h => kf ?_))
  · rcases pz_tri x y with q | q | q
    · rw [pz_cmpP q] at h; exact absurd h (by decide)
    · subst q; exact Int64.le_refl x
    · exact (pz_ltN q).2.2.1
  · rcases pz_tri x y with q | q | q
    · exact q
    · subst q; rw [pz_cmp0] at h; exact absurd (by decide) h
    · rw [pz_cmpN (pz_ltN q).1 (pz_ltN q).2.1] at h; exact absurd (by decide) h
theorem pz_lgt (hexec : p.tables.exec = Jvm.exec) (hb : c.code = cc) (d1 : decode cc pc = .ok (.lcmp, 1)) (d2 : decode cc (pc + 1) = .ok (.ifCond .gt off, 3)) (ht : ((pc + 1 : Nat) : Int) + off = (tgt : Int)) (kt : y < x → W p l e R s m args below meth c H locs cells slots Q (F0 m tgt ls rest)) (kf : x ≤ y → W p l e R s m args below meth c H locs cells slots Q (F0 m (pc + 1 + 3) ls rest)) : W p l e R s m args below meth c H locs cells slots Q (F0 m pc ls (.long y :: .long x :: rest)) := by
  refine W.lcmp hexec hb d1 (lv_if_gt hexec hb d2 ht (fun h => kt ?_) (fun h => kf ?_))
  · rcases pz_tri x y with q | q | q
    · exact q
    · subst q; rw [pz_cmp0] at h; exact absurd h (by decide)
    · rw [pz_cmpN (pz_ltN q).1 (pz_ltN q).2.1] at h; exact absurd h (by decide)
  · rcases pz_tri x y with q | q | q
    · rw [pz_cmpP q] at h; exact absurd (by decide) h
    · subst q; exact Int64.le_refl x
    · exact (pz_ltN q).2.2.1
theorem pz_llt (hexec : p.tables.exec = Jvm.exec) (hb : c.code = cc) (d1 : decode cc pc = .ok (.lcmp, 1)) (d2 : decode cc (pc + 1) = .ok (.ifCond .lt off, 3)) (ht : ((pc + 1 : Nat) : Int) + off = (tgt : Int)) (kt : x < y → W p l e R s m args below meth c H locs cells slots Q (F0 m tgt ls rest)) (kf : y ≤ x → W p l e R s m args below meth c H locs cells slots Q (F0 m (pc + 1 + 3) ls rest)) : W p l e R s m args below meth c H locs cells slots Q (F0 m pc ls (.long y :: .long x :: rest)) := by
  refine W.lcmp hexec hb d1 (lv_if_lt hexec hb d2 ht (fun h => kt ?_) (fun h => kf ?_))
  · rcases pz_tri x y with q | q | q
    · rw [pz_cmpP q] at h; exact absurd h (by decide)
    · subst q; rw [pz_cmp0] at h; exact absurd h (by decide)
    · exact q
  · rcases pz_tri x y with q | q | q
    · exact (pz_ltN q).2.2.1
    · subst q; exact Int64.le_refl x
    · rw [pz_cmpN (pz_ltN q).1 (pz_ltN q).2.1] at h; exact absurd (by decide) h
theorem pz_lge (hexec : p.tables.exec = Jvm.exec) (hb : c.code = cc) (d1 : decode cc pc = .ok (.lcmp, 1)) (d2 : decode cc (pc + 1) = .ok (.ifCond .ge off, 3)) (ht : ((pc + 1 : Nat) : Int) + off = (tgt : Int)) (kt : y ≤ x → W p l e R s m args below meth c H locs cells slots Q (F0 m tgt ls rest)) (kf : x < y → W p l e R s m args below meth c H locs cells slots Q (F0 m (pc + 1 + 3) ls rest)) : W p l e R s m args below meth c H locs cells slots Q (F0 m pc ls (.long y :: .long x :: rest)) := by
  refine W.lcmp hexec hb d1 (lv_if_ge hexec hb d2 ht (fun h => kt ?_) (fun h => kf ?_))
  · rcases pz_tri x y with q | q | q
    · exact (pz_ltN q).2.2.1
    · subst q; exact Int64.le_refl x
    · rw [pz_cmpN (pz_ltN q).1 (pz_ltN q).2.1] at h; exact absurd h (by decide)
  · rcases pz_tri x y with q | q | q
    · rw [pz_cmpP q] at h; exact absurd (by decide) h
    · subst q; rw [pz_cmp0] at h; exact absurd (by decide) h
    · exact q
theorem pz_lne (hexec : p.tables.exec = Jvm.exec) (hb : c.code = cc) (d1 : decode cc pc = .ok (.lcmp, 1)) (d2 : decode cc (pc + 1) = .ok (.ifCond .ne off, 3)) (ht : ((pc + 1 : Nat) : Int) + off = (tgt : Int)) (kt : ¬ x = y → W p l e R s m args below meth c H locs cells slots Q (F0 m tgt ls rest)) (kf : x = y → W p l e R s m args below meth c H locs cells slots Q (F0 m (pc + 1 + 3) ls rest)) : W p l e R s m args below meth c H locs cells slots Q (F0 m pc ls (.long y :: .long x :: rest)) := by
  refine W.lcmp hexec hb d1 (lv_if_ne hexec hb d2 ht (fun h => kt ?_) (fun h => kf ?_))
  · rintro rfl
    rw [pz_cmp0] at h
    exact h rfl
  · rcases pz_tri x y with q | q | q
    · rw [pz_cmpP q] at h; exact absurd h (by decide)
    · exact q
    · rw [pz_cmpN (pz_ltN q).1 (pz_ltN q).2.1] at h; exact absurd h (by decide)
theorem pz_leq (hexec : p.tables.exec = Jvm.exec) (hb : c.code = cc) (d1 : decode cc pc = .ok (.lcmp, 1)) (d2 : decode cc (pc + 1) = .ok (.ifCond .eq off, 3)) (ht : ((pc + 1 : Nat) : Int) + off = (tgt : Int)) (kt : x = y → W p l e R s m args below meth c H locs cells slots Q (F0 m tgt ls rest)) (kf : ¬ x = y → W p l e R s m args below meth c H locs cells slots Q (F0 m (pc + 1 + 3) ls rest)) : W p l e R s m args below meth c H locs cells slots Q (F0 m pc ls (.long y :: .long x :: rest)) := by
  refine W.lcmp hexec hb d1 (lv_if_eq hexec hb d2 ht (fun h => kt ?_) (fun h => kf ?_))
  · rcases pz_tri x y with q | q | q
    · rw [pz_cmpP q] at h; exact absurd h (by decide)
    · exact q
    · rw [pz_cmpN (pz_ltN q).1 (pz_ltN q).2.1] at h; exact absurd h (by decide)
  · rintro rfl
    rw [pz_cmp0] at h
    exact h rfl
end PZE
end
section
/-! methods of the class: names, words, decode rows -/
def y_BX_init : MethodName := ⟨"PageMaker$Box", "<init>", "(II)V"⟩
def w_BX_init : List Cond := .code y_BX_init prog_2_method_1_code 3 none :: TB
theorem d_BX_init_0 : decode prog_2_method_1_code 0 = .ok (.aload_n 0, 1) := by decide +kernel
theorem d_BX_init_1 : decode prog_2_method_1_code 1 = .ok (.invokespecial 1, 3) := by decide +kernel
theorem d_BX_init_4 : decode prog_2_method_1_code 4 = .ok (.aload_n 0, 1) := by decide +kernel
theorem d_BX_init_5 : decode prog_2_method_1_code 5 = .ok (.iload_n 1, 1) := by decide +kernel
theorem d_BX_init_6 : decode prog_2_method_1_code 6 = .ok (.putfield 7, 3) := by decide +kernel
theorem d_BX_init_9 : decode prog_2_method_1_code 9 = .ok (.aload_n 0, 1) := by decide +kernel
theorem d_BX_init_10 : decode prog_2_method_1_code 10 = .ok (.iload_n 2, 1) := by decide +kernel
theorem d_BX_init_11 : decode prog_2_method_1_code 11 = .ok (.putfield 13, 3) := by decide +kernel
theorem d_BX_init_14 : decode prog_2_method_1_code 14 = .ok (.return_, 1) := by decide +kernel
def y_BX_addTo : MethodName := ⟨"PageMaker$Box", "addTo", "(LPageMaker$Totals;LPageMaker$Frame;)V"⟩
def w_BX_addTo : List Cond := .code y_BX_addTo prog_2_method_2_code 3 none :: TB
theorem d_BX_addTo_0 : decode prog_2_method_2_code 0 = .ok (.aload_n 1, 1) := by decide +kernel
theorem d_BX_addTo_1 : decode prog_2_method_2_code 1 = .ok (.dup, 1) := by decide +kernel
theorem d_BX_addTo_2 : decode prog_2_method_2_code 2 = .ok (.getfield 16, 3) := by decide +kernel
theorem d_BX_addTo_5 : decode prog_2_method_2_code 5 = .ok (.aload_n 1, 1) := by decide +kernel
theorem d_BX_addTo_6 : decode prog_2_method_2_code 6 = .ok (.getfield 22, 3) := by decide +kernel
theorem d_BX_addTo_9 : decode prog_2_method_2_code 9 = .ok (.aload_n 0, 1) := by decide +kernel
theorem d_BX_addTo_10 : decode prog_2_method_2_code 10 = .ok (.getfield 7, 3) := by decide +kernel
theorem d_BX_addTo_13 : decode prog_2_method_2_code 13 = .ok (.i2l, 1) := by decide +kernel
theorem d_BX_addTo_14 : decode prog_2_method_2_code 14 = .ok (.ladd, 1) := by decide +kernel
theorem d_BX_addTo_15 : decode prog_2_method_2_code 15 = .ok (.ladd, 1) := by decide +kernel
theorem d_BX_addTo_16 : decode prog_2_method_2_code 16 = .ok (.putfield 16, 3) := by decide +kernel
theorem d_BX_addTo_19 : decode prog_2_method_2_code 19 = .ok (.aload_n 1, 1) := by decide +kernel
theorem d_BX_addTo_20 : decode prog_2_method_2_code 20 = .ok (.aload_n 0, 1) := by decide +kernel
theorem d_BX_addTo_21 : decode prog_2_method_2_code 21 = .ok (.getfield 13, 3) := by decide +kernel
theorem d_BX_addTo_24 : decode prog_2_method_2_code 24 = .ok (.aload_n 2, 1) := by decide +kernel
theorem d_BX_addTo_25 : decode prog_2_method_2_code 25 = .ok (.getfield 24, 3) := by decide +kernel
theorem d_BX_addTo_28 : decode prog_2_method_2_code 28 = .ok (.invokestatic 29, 3) := by decide +kernel
theorem d_BX_addTo_31 : decode prog_2_method_2_code 31 = .ok (.i2l, 1) := by decide +kernel
theorem d_BX_addTo_32 : decode prog_2_method_2_code 32 = .ok (.putfield 22, 3) := by decide +kernel
theorem d_BX_addTo_35 : decode prog_2_method_2_code 35 = .ok (.aload_n 1, 1) := by decide +kernel
theorem d_BX_addTo_36 : decode prog_2_method_2_code 36 = .ok (.dup, 1) := by decide +kernel
theorem d_BX_addTo_37 : decode prog_2_method_2_code 37 = .ok (.getfield 16, 3) := by decide +kernel
theorem d_BX_addTo_40 : decode prog_2_method_2_code 40 = .ok (.aload_n 0, 1) := by decide +kernel
theorem d_BX_addTo_41 : decode prog_2_method_2_code 41 = .ok (.getfield 13, 3) := by decide +kernel
theorem d_BX_addTo_44 : decode prog_2_method_2_code 44 = .ok (.i2l, 1) := by decide +kernel
theorem d_BX_addTo_45 : decode prog_2_method_2_code 45 = .ok (.aload_n 1, 1) := by decide +kernel
theorem d_BX_addTo_46 : decode prog_2_method_2_code 46 = .ok (.getfield 22, 3) := by decide +kernel
theorem d_BX_addTo_49 : decode prog_2_method_2_code 49 = .ok (.lsub, 1) := by decide +kernel
theorem d_BX_addTo_50 : decode prog_2_method_2_code 50 = .ok (.ladd, 1) := by decide +kernel
theorem d_BX_addTo_51 : decode prog_2_method_2_code 51 = .ok (.putfield 16, 3) := by decide +kernel
theorem d_BX_addTo_54 : decode prog_2_method_2_code 54 = .ok (.return_, 1) := by decide +kernel
def y_EP_init : MethodName := ⟨"PageMaker$EndedPage", "<init>", "(LPageMaker$OpenPage;LPageMaker$Totals;)V"⟩
def w_EP_init : List Cond := .code y_EP_init prog_3_method_1_code 3 none :: TB
theorem d_EP_init_0 : decode prog_3_method_1_code 0 = .ok (.aload_n 0, 1) := by decide +kernel
theorem d_EP_init_1 : decode prog_3_method_1_code 1 = .ok (.invokespecial 1, 3) := by decide +kernel
theorem d_EP_init_4 : decode prog_3_method_1_code 4 = .ok (.aload_n 0, 1) := by decide +kernel
theorem d_EP_init_5 : decode prog_3_method_1_code 5 = .ok (.aload_n 1, 1) := by decide +kernel
theorem d_EP_init_6 : decode prog_3_method_1_code 6 = .ok (.getfield 7, 3) := by decide +kernel
theorem d_EP_init_9 : decode prog_3_method_1_code 9 = .ok (.putfield 13, 3) := by decide +kernel
theorem d_EP_init_12 : decode prog_3_method_1_code 12 = .ok (.aload_n 0, 1) := by decide +kernel
theorem d_EP_init_13 : decode prog_3_method_1_code 13 = .ok (.aload_n 1, 1) := by decide +kernel
theorem d_EP_init_14 : decode prog_3_method_1_code 14 = .ok (.getfield 16, 3) := by decide +kernel
theorem d_EP_init_17 : decode prog_3_method_1_code 17 = .ok (.putfield 20, 3) := by decide +kernel
theorem d_EP_init_20 : decode prog_3_method_1_code 20 = .ok (.aload_n 0, 1) := by decide +kernel
theorem d_EP_init_21 : decode prog_3_method_1_code 21 = .ok (.aload_n 1, 1) := by decide +kernel
theorem d_EP_init_22 : decode prog_3_method_1_code 22 = .ok (.getfield 21, 3) := by decide +kernel
theorem d_EP_init_25 : decode prog_3_method_1_code 25 = .ok (.putfield 24, 3) := by decide +kernel
theorem d_EP_init_28 : decode prog_3_method_1_code 28 = .ok (.aload_n 0, 1) := by decide +kernel
theorem d_EP_init_29 : decode prog_3_method_1_code 29 = .ok (.aload_n 1, 1) := by decide +kernel
theorem d_EP_init_30 : decode prog_3_method_1_code 30 = .ok (.getfield 25, 3) := by decide +kernel
theorem d_EP_init_33 : decode prog_3_method_1_code 33 = .ok (.putfield 28, 3) := by decide +kernel
theorem d_EP_init_36 : decode prog_3_method_1_code 36 = .ok (.aload_n 0, 1) := by decide +kernel
theorem d_EP_init_37 : decode prog_3_method_1_code 37 = .ok (.aload_n 1, 1) := by decide +kernel
theorem d_EP_init_38 : decode prog_3_method_1_code 38 = .ok (.getfield 31, 3) := by decide +kernel
theorem d_EP_init_41 : decode prog_3_method_1_code 41 = .ok (.putfield 34, 3) := by decide +kernel
theorem d_EP_init_44 : decode prog_3_method_1_code 44 = .ok (.aload_n 0, 1) := by decide +kernel
theorem d_EP_init_45 : decode prog_3_method_1_code 45 = .ok (.aload_n 1, 1) := by decide +kernel
theorem d_EP_init_46 : decode prog_3_method_1_code 46 = .ok (.getfield 37, 3) := by decide +kernel
theorem d_EP_init_49 : decode prog_3_method_1_code 49 = .ok (.putfield 40, 3) := by decide +kernel
theorem d_EP_init_52 : decode prog_3_method_1_code 52 = .ok (.aload_n 0, 1) := by decide +kernel
theorem d_EP_init_53 : decode prog_3_method_1_code 53 = .ok (.aload_n 1, 1) := by decide +kernel
theorem d_EP_init_54 : decode prog_3_method_1_code 54 = .ok (.getfield 7, 3) := by decide +kernel
theorem d_EP_init_57 : decode prog_3_method_1_code 57 = .ok (.getfield 41, 3) := by decide +kernel
theorem d_EP_init_60 : decode prog_3_method_1_code 60 = .ok (.i2l, 1) := by decide +kernel
theorem d_EP_init_61 : decode prog_3_method_1_code 61 = .ok (.aload_n 2, 1) := by decide +kernel
theorem d_EP_init_62 : decode prog_3_method_1_code 62 = .ok (.getfield 46, 3) := by decide +kernel
theorem d_EP_init_65 : decode prog_3_method_1_code 65 = .ok (.lsub, 1) := by decide +kernel
theorem d_EP_init_66 : decode prog_3_method_1_code 66 = .ok (.putfield 52, 3) := by decide +kernel
theorem d_EP_init_69 : decode prog_3_method_1_code 69 = .ok (.aload_n 0, 1) := by decide +kernel
theorem d_EP_init_70 : decode prog_3_method_1_code 70 = .ok (.aload_n 0, 1) := by decide +kernel
theorem d_EP_init_71 : decode prog_3_method_1_code 71 = .ok (.getfield 52, 3) := by decide +kernel
theorem d_EP_init_74 : decode prog_3_method_1_code 74 = .ok (.lconst 0, 1) := by decide +kernel
theorem d_EP_init_75 : decode prog_3_method_1_code 75 = .ok (.lcmp, 1) := by decide +kernel
theorem d_EP_init_76 : decode prog_3_method_1_code 76 = .ok (.ifCond .le 10, 3) := by decide +kernel
theorem d_EP_init_79 : decode prog_3_method_1_code 79 = .ok (.aload_n 2, 1) := by decide +kernel
theorem d_EP_init_80 : decode prog_3_method_1_code 80 = .ok (.invokevirtual 55, 3) := by decide +kernel
theorem d_EP_init_83 : decode prog_3_method_1_code 83 = .ok (.goto 4, 3) := by decide +kernel
theorem d_EP_init_86 : decode prog_3_method_1_code 86 = .ok (.iconst 0, 1) := by decide +kernel
theorem d_EP_init_87 : decode prog_3_method_1_code 87 = .ok (.putfield 59, 3) := by decide +kernel
theorem d_EP_init_90 : decode prog_3_method_1_code 90 = .ok (.aload_n 0, 1) := by decide +kernel
theorem d_EP_init_91 : decode prog_3_method_1_code 91 = .ok (.getfield 52, 3) := by decide +kernel
theorem d_EP_init_94 : decode prog_3_method_1_code 94 = .ok (.lconst 0, 1) := by decide +kernel
theorem d_EP_init_95 : decode prog_3_method_1_code 95 = .ok (.lcmp, 1) := by decide +kernel
theorem d_EP_init_96 : decode prog_3_method_1_code 96 = .ok (.ifCond .le 19, 3) := by decide +kernel
theorem d_EP_init_99 : decode prog_3_method_1_code 99 = .ok (.aload_n 0, 1) := by decide +kernel
theorem d_EP_init_100 : decode prog_3_method_1_code 100 = .ok (.aload_n 2, 1) := by decide +kernel
theorem d_EP_init_101 : decode prog_3_method_1_code 101 = .ok (.getfield 62, 3) := by decide +kernel
theorem d_EP_init_104 : decode prog_3_method_1_code 104 = .ok (.aload_n 0, 1) := by decide +kernel
theorem d_EP_init_105 : decode prog_3_method_1_code 105 = .ok (.getfield 59, 3) := by decide +kernel
theorem d_EP_init_108 : decode prog_3_method_1_code 108 = .ok (.laload, 1) := by decide +kernel
theorem d_EP_init_109 : decode prog_3_method_1_code 109 = .ok (.putfield 66, 3) := by decide +kernel
theorem d_EP_init_112 : decode prog_3_method_1_code 112 = .ok (.goto 24, 3) := by decide +kernel
theorem d_EP_init_115 : decode prog_3_method_1_code 115 = .ok (.aload_n 0, 1) := by decide +kernel
theorem d_EP_init_116 : decode prog_3_method_1_code 116 = .ok (.aload_n 0, 1) := by decide +kernel
theorem d_EP_init_117 : decode prog_3_method_1_code 117 = .ok (.getfield 52, 3) := by decide +kernel
theorem d_EP_init_120 : decode prog_3_method_1_code 120 = .ok (.lconst 0, 1) := by decide +kernel
theorem d_EP_init_121 : decode prog_3_method_1_code 121 = .ok (.lcmp, 1) := by decide +kernel
theorem d_EP_init_122 : decode prog_3_method_1_code 122 = .ok (.ifCond .ge 10, 3) := by decide +kernel
theorem d_EP_init_125 : decode prog_3_method_1_code 125 = .ok (.aload_n 2, 1) := by decide +kernel
theorem d_EP_init_126 : decode prog_3_method_1_code 126 = .ok (.getfield 69, 3) := by decide +kernel
theorem d_EP_init_129 : decode prog_3_method_1_code 129 = .ok (.goto 4, 3) := by decide +kernel
theorem d_EP_init_132 : decode prog_3_method_1_code 132 = .ok (.lconst 0, 1) := by decide +kernel
theorem d_EP_init_133 : decode prog_3_method_1_code 133 = .ok (.putfield 66, 3) := by decide +kernel
theorem d_EP_init_136 : decode prog_3_method_1_code 136 = .ok (.return_, 1) := by decide +kernel
def y_EP_holds : MethodName := ⟨"PageMaker$EndedPage", "holds", "(I)Z"⟩
def w_EP_holds : List Cond := .code y_EP_holds prog_3_method_2_code 2 (some .boolean) :: TB
theorem d_EP_holds_0 : decode prog_3_method_2_code 0 = .ok (.iload_n 1, 1) := by decide +kernel
theorem d_EP_holds_1 : decode prog_3_method_2_code 1 = .ok (.aload_n 0, 1) := by decide +kernel
theorem d_EP_holds_2 : decode prog_3_method_2_code 2 = .ok (.getfield 20, 3) := by decide +kernel
theorem d_EP_holds_5 : decode prog_3_method_2_code 5 = .ok (.if_icmp .lt 15, 3) := by decide +kernel
theorem d_EP_holds_8 : decode prog_3_method_2_code 8 = .ok (.iload_n 1, 1) := by decide +kernel
theorem d_EP_holds_9 : decode prog_3_method_2_code 9 = .ok (.aload_n 0, 1) := by decide +kernel
theorem d_EP_holds_10 : decode prog_3_method_2_code 10 = .ok (.getfield 24, 3) := by decide +kernel
theorem d_EP_holds_13 : decode prog_3_method_2_code 13 = .ok (.if_icmp .ge 7, 3) := by decide +kernel
theorem d_EP_holds_16 : decode prog_3_method_2_code 16 = .ok (.iconst 1, 1) := by decide +kernel
theorem d_EP_holds_17 : decode prog_3_method_2_code 17 = .ok (.goto 4, 3) := by decide +kernel
theorem d_EP_holds_20 : decode prog_3_method_2_code 20 = .ok (.iconst 0, 1) := by decide +kernel
theorem d_EP_holds_21 : decode prog_3_method_2_code 21 = .ok (.ireturn, 1) := by decide +kernel
def y_EP_shareOf : MethodName := ⟨"PageMaker$EndedPage", "shareOf", "(LPageMaker$Totals;)J"⟩
def w_EP_shareOf : List Cond := .code y_EP_shareOf prog_3_method_3_code 2 (some .long) :: TB
theorem d_EP_shareOf_0 : decode prog_3_method_3_code 0 = .ok (.aload_n 0, 1) := by decide +kernel
theorem d_EP_shareOf_1 : decode prog_3_method_3_code 1 = .ok (.getfield 52, 3) := by decide +kernel
theorem d_EP_shareOf_4 : decode prog_3_method_3_code 4 = .ok (.lconst 0, 1) := by decide +kernel
theorem d_EP_shareOf_5 : decode prog_3_method_3_code 5 = .ok (.lcmp, 1) := by decide +kernel
theorem d_EP_shareOf_6 : decode prog_3_method_3_code 6 = .ok (.ifCond .le 24, 3) := by decide +kernel
theorem d_EP_shareOf_9 : decode prog_3_method_3_code 9 = .ok (.aload_n 1, 1) := by decide +kernel
theorem d_EP_shareOf_10 : decode prog_3_method_3_code 10 = .ok (.getfield 62, 3) := by decide +kernel
theorem d_EP_shareOf_13 : decode prog_3_method_3_code 13 = .ok (.aload_n 0, 1) := by decide +kernel
theorem d_EP_shareOf_14 : decode prog_3_method_3_code 14 = .ok (.getfield 59, 3) := by decide +kernel
theorem d_EP_shareOf_17 : decode prog_3_method_3_code 17 = .ok (.laload, 1) := by decide +kernel
theorem d_EP_shareOf_18 : decode prog_3_method_3_code 18 = .ok (.aload_n 0, 1) := by decide +kernel
theorem d_EP_shareOf_19 : decode prog_3_method_3_code 19 = .ok (.getfield 52, 3) := by decide +kernel
theorem d_EP_shareOf_22 : decode prog_3_method_3_code 22 = .ok (.aload_n 0, 1) := by decide +kernel
theorem d_EP_shareOf_23 : decode prog_3_method_3_code 23 = .ok (.getfield 66, 3) := by decide +kernel
theorem d_EP_shareOf_26 : decode prog_3_method_3_code 26 = .ok (.invokestatic 72, 3) := by decide +kernel
theorem d_EP_shareOf_29 : decode prog_3_method_3_code 29 = .ok (.lreturn, 1) := by decide +kernel
theorem d_EP_shareOf_30 : decode prog_3_method_3_code 30 = .ok (.aload_n 1, 1) := by decide +kernel
theorem d_EP_shareOf_31 : decode prog_3_method_3_code 31 = .ok (.getfield 69, 3) := by decide +kernel
theorem d_EP_shareOf_34 : decode prog_3_method_3_code 34 = .ok (.aload_n 0, 1) := by decide +kernel
theorem d_EP_shareOf_35 : decode prog_3_method_3_code 35 = .ok (.getfield 52, 3) := by decide +kernel
theorem d_EP_shareOf_38 : decode prog_3_method_3_code 38 = .ok (.lneg, 1) := by decide +kernel
theorem d_EP_shareOf_39 : decode prog_3_method_3_code 39 = .ok (.aload_n 0, 1) := by decide +kernel
theorem d_EP_shareOf_40 : decode prog_3_method_3_code 40 = .ok (.getfield 66, 3) := by decide +kernel
theorem d_EP_shareOf_43 : decode prog_3_method_3_code 43 = .ok (.invokestatic 78, 3) := by decide +kernel
theorem d_EP_shareOf_46 : decode prog_3_method_3_code 46 = .ok (.aload_n 0, 1) := by decide +kernel
theorem d_EP_shareOf_47 : decode prog_3_method_3_code 47 = .ok (.getfield 66, 3) := by decide +kernel
theorem d_EP_shareOf_50 : decode prog_3_method_3_code 50 = .ok (.invokestatic 72, 3) := by decide +kernel
theorem d_EP_shareOf_53 : decode prog_3_method_3_code 53 = .ok (.lneg, 1) := by decide +kernel
theorem d_EP_shareOf_54 : decode prog_3_method_3_code 54 = .ok (.lreturn, 1) := by decide +kernel
def y_FR_init : MethodName := ⟨"PageMaker$Frame", "<init>", "(III)V"⟩
def w_FR_init : List Cond := .code y_FR_init prog_4_method_1_code 4 none :: TB
theorem d_FR_init_0 : decode prog_4_method_1_code 0 = .ok (.aload_n 0, 1) := by decide +kernel
theorem d_FR_init_1 : decode prog_4_method_1_code 1 = .ok (.invokespecial 1, 3) := by decide +kernel
theorem d_FR_init_4 : decode prog_4_method_1_code 4 = .ok (.aload_n 0, 1) := by decide +kernel
theorem d_FR_init_5 : decode prog_4_method_1_code 5 = .ok (.iload_n 1, 1) := by decide +kernel
theorem d_FR_init_6 : decode prog_4_method_1_code 6 = .ok (.putfield 7, 3) := by decide +kernel
theorem d_FR_init_9 : decode prog_4_method_1_code 9 = .ok (.aload_n 0, 1) := by decide +kernel
theorem d_FR_init_10 : decode prog_4_method_1_code 10 = .ok (.iload_n 2, 1) := by decide +kernel
theorem d_FR_init_11 : decode prog_4_method_1_code 11 = .ok (.putfield 13, 3) := by decide +kernel
theorem d_FR_init_14 : decode prog_4_method_1_code 14 = .ok (.aload_n 0, 1) := by decide +kernel
theorem d_FR_init_15 : decode prog_4_method_1_code 15 = .ok (.iload_n 3, 1) := by decide +kernel
theorem d_FR_init_16 : decode prog_4_method_1_code 16 = .ok (.putfield 16, 3) := by decide +kernel
theorem d_FR_init_19 : decode prog_4_method_1_code 19 = .ok (.return_, 1) := by decide +kernel
def y_GL_init : MethodName := ⟨"PageMaker$Glue", "<init>", "(IIII)V"⟩
def w_GL_init : List Cond := .code y_GL_init prog_5_method_1_code 5 none :: TB
theorem d_GL_init_0 : decode prog_5_method_1_code 0 = .ok (.aload_n 0, 1) := by decide +kernel
theorem d_GL_init_1 : decode prog_5_method_1_code 1 = .ok (.invokespecial 3, 3) := by decide +kernel
theorem d_GL_init_4 : decode prog_5_method_1_code 4 = .ok (.aload_n 0, 1) := by decide +kernel
theorem d_GL_init_5 : decode prog_5_method_1_code 5 = .ok (.iload_n 1, 1) := by decide +kernel
theorem d_GL_init_6 : decode prog_5_method_1_code 6 = .ok (.putfield 9, 3) := by decide +kernel
theorem d_GL_init_9 : decode prog_5_method_1_code 9 = .ok (.aload_n 0, 1) := by decide +kernel
theorem d_GL_init_10 : decode prog_5_method_1_code 10 = .ok (.iload_n 2, 1) := by decide +kernel
theorem d_GL_init_11 : decode prog_5_method_1_code 11 = .ok (.putfield 15, 3) := by decide +kernel
theorem d_GL_init_14 : decode prog_5_method_1_code 14 = .ok (.aload_n 0, 1) := by decide +kernel
theorem d_GL_init_15 : decode prog_5_method_1_code 15 = .ok (.iload_n 3, 1) := by decide +kernel
theorem d_GL_init_16 : decode prog_5_method_1_code 16 = .ok (.putfield 18, 3) := by decide +kernel
theorem d_GL_init_19 : decode prog_5_method_1_code 19 = .ok (.aload_n 0, 1) := by decide +kernel
theorem d_GL_init_20 : decode prog_5_method_1_code 20 = .ok (.iload 4, 2) := by decide +kernel
theorem d_GL_init_22 : decode prog_5_method_1_code 22 = .ok (.putfield 21, 3) := by decide +kernel
theorem d_GL_init_25 : decode prog_5_method_1_code 25 = .ok (.return_, 1) := by decide +kernel
def y_GL_addTo : MethodName := ⟨"PageMaker$Glue", "addTo", "(LPageMaker$Totals;LPageMaker$Frame;)V"⟩
def w_GL_addTo : List Cond := .code y_GL_addTo prog_5_method_2_code 3 none :: TB
theorem d_GL_addTo_0 : decode prog_5_method_2_code 0 = .ok (.aload_n 1, 1) := by decide +kernel
theorem d_GL_addTo_1 : decode prog_5_method_2_code 1 = .ok (.aload_n 0, 1) := by decide +kernel
theorem d_GL_addTo_2 : decode prog_5_method_2_code 2 = .ok (.getfield 9, 3) := by decide +kernel
theorem d_GL_addTo_5 : decode prog_5_method_2_code 5 = .ok (.i2l, 1) := by decide +kernel
theorem d_GL_addTo_6 : decode prog_5_method_2_code 6 = .ok (.invokevirtual 24, 3) := by decide +kernel
theorem d_GL_addTo_9 : decode prog_5_method_2_code 9 = .ok (.aload_n 1, 1) := by decide +kernel
theorem d_GL_addTo_10 : decode prog_5_method_2_code 10 = .ok (.dup, 1) := by decide +kernel
theorem d_GL_addTo_11 : decode prog_5_method_2_code 11 = .ok (.getfield 30, 3) := by decide +kernel
theorem d_GL_addTo_14 : decode prog_5_method_2_code 14 = .ok (.aload_n 0, 1) := by decide +kernel
theorem d_GL_addTo_15 : decode prog_5_method_2_code 15 = .ok (.getfield 21, 3) := by decide +kernel
theorem d_GL_addTo_18 : decode prog_5_method_2_code 18 = .ok (.i2l, 1) := by decide +kernel
theorem d_GL_addTo_19 : decode prog_5_method_2_code 19 = .ok (.ladd, 1) := by decide +kernel
theorem d_GL_addTo_20 : decode prog_5_method_2_code 20 = .ok (.putfield 30, 3) := by decide +kernel
theorem d_GL_addTo_23 : decode prog_5_method_2_code 23 = .ok (.aload_n 0, 1) := by decide +kernel
theorem d_GL_addTo_24 : decode prog_5_method_2_code 24 = .ok (.getfield 18, 3) := by decide +kernel
theorem d_GL_addTo_27 : decode prog_5_method_2_code 27 = .ok (.ifCond .lt 28, 3) := by decide +kernel
theorem d_GL_addTo_30 : decode prog_5_method_2_code 30 = .ok (.aload_n 0, 1) := by decide +kernel
theorem d_GL_addTo_31 : decode prog_5_method_2_code 31 = .ok (.getfield 18, 3) := by decide +kernel
theorem d_GL_addTo_34 : decode prog_5_method_2_code 34 = .ok (.iconst 4, 1) := by decide +kernel
theorem d_GL_addTo_35 : decode prog_5_method_2_code 35 = .ok (.if_icmp .ge 20, 3) := by decide +kernel
theorem d_GL_addTo_38 : decode prog_5_method_2_code 38 = .ok (.aload_n 1, 1) := by decide +kernel
theorem d_GL_addTo_39 : decode prog_5_method_2_code 39 = .ok (.getfield 33, 3) := by decide +kernel
theorem d_GL_addTo_42 : decode prog_5_method_2_code 42 = .ok (.aload_n 0, 1) := by decide +kernel
theorem d_GL_addTo_43 : decode prog_5_method_2_code 43 = .ok (.getfield 18, 3) := by decide +kernel
theorem d_GL_addTo_46 : decode prog_5_method_2_code 46 = .ok (.dup2, 1) := by decide +kernel
theorem d_GL_addTo_47 : decode prog_5_method_2_code 47 = .ok (.laload, 1) := by decide +kernel
theorem d_GL_addTo_48 : decode prog_5_method_2_code 48 = .ok (.aload_n 0, 1) := by decide +kernel
theorem d_GL_addTo_49 : decode prog_5_method_2_code 49 = .ok (.getfield 15, 3) := by decide +kernel
theorem d_GL_addTo_52 : decode prog_5_method_2_code 52 = .ok (.i2l, 1) := by decide +kernel
theorem d_GL_addTo_53 : decode prog_5_method_2_code 53 = .ok (.ladd, 1) := by decide +kernel
theorem d_GL_addTo_54 : decode prog_5_method_2_code 54 = .ok (.lastore, 1) := by decide +kernel
theorem d_GL_addTo_55 : decode prog_5_method_2_code 55 = .ok (.return_, 1) := by decide +kernel
def y_IT_init : MethodName := ⟨"PageMaker$Item", "<init>", "()V"⟩
def w_IT_init : List Cond := .code y_IT_init prog_6_method_1_code 1 none :: TB
theorem d_IT_init_0 : decode prog_6_method_1_code 0 = .ok (.aload_n 0, 1) := by decide +kernel
theorem d_IT_init_1 : decode prog_6_method_1_code 1 = .ok (.invokespecial 1, 3) := by decide +kernel
theorem d_IT_init_4 : decode prog_6_method_1_code 4 = .ok (.return_, 1) := by decide +kernel
def y_KE_init : MethodName := ⟨"PageMaker$Kern", "<init>", "(I)V"⟩
def w_KE_init : List Cond := .code y_KE_init prog_7_method_1_code 2 none :: TB
theorem d_KE_init_0 : decode prog_7_method_1_code 0 = .ok (.aload_n 0, 1) := by decide +kernel
theorem d_KE_init_1 : decode prog_7_method_1_code 1 = .ok (.invokespecial 1, 3) := by decide +kernel
theorem d_KE_init_4 : decode prog_7_method_1_code 4 = .ok (.aload_n 0, 1) := by decide +kernel
theorem d_KE_init_5 : decode prog_7_method_1_code 5 = .ok (.iload_n 1, 1) := by decide +kernel
theorem d_KE_init_6 : decode prog_7_method_1_code 6 = .ok (.putfield 7, 3) := by decide +kernel
theorem d_KE_init_9 : decode prog_7_method_1_code 9 = .ok (.return_, 1) := by decide +kernel
def y_KE_addTo : MethodName := ⟨"PageMaker$Kern", "addTo", "(LPageMaker$Totals;LPageMaker$Frame;)V"⟩
def w_KE_addTo : List Cond := .code y_KE_addTo prog_7_method_2_code 3 none :: TB
theorem d_KE_addTo_0 : decode prog_7_method_2_code 0 = .ok (.aload_n 1, 1) := by decide +kernel
theorem d_KE_addTo_1 : decode prog_7_method_2_code 1 = .ok (.aload_n 0, 1) := by decide +kernel
theorem d_KE_addTo_2 : decode prog_7_method_2_code 2 = .ok (.getfield 7, 3) := by decide +kernel
theorem d_KE_addTo_5 : decode prog_7_method_2_code 5 = .ok (.i2l, 1) := by decide +kernel
theorem d_KE_addTo_6 : decode prog_7_method_2_code 6 = .ok (.invokevirtual 13, 3) := by decide +kernel
theorem d_KE_addTo_9 : decode prog_7_method_2_code 9 = .ok (.return_, 1) := by decide +kernel
def y_OP_init : MethodName := ⟨"PageMaker$OpenPage", "<init>", "(LPageMaker$Frame;)V"⟩
def w_OP_init : List Cond := .code y_OP_init prog_8_method_1_code 2 none :: TB
theorem d_OP_init_0 : decode prog_8_method_1_code 0 = .ok (.aload_n 0, 1) := by decide +kernel
theorem d_OP_init_1 : decode prog_8_method_1_code 1 = .ok (.invokespecial 3, 3) := by decide +kernel
theorem d_OP_init_4 : decode prog_8_method_1_code 4 = .ok (.aload_n 0, 1) := by decide +kernel
theorem d_OP_init_5 : decode prog_8_method_1_code 5 = .ok (.new 9, 3) := by decide +kernel
theorem d_OP_init_8 : decode prog_8_method_1_code 8 = .ok (.dup, 1) := by decide +kernel
theorem d_OP_init_9 : decode prog_8_method_1_code 9 = .ok (.invokespecial 11, 3) := by decide +kernel
theorem d_OP_init_12 : decode prog_8_method_1_code 12 = .ok (.putfield 12, 3) := by decide +kernel
theorem d_OP_init_15 : decode prog_8_method_1_code 15 = .ok (.aload_n 0, 1) := by decide +kernel
theorem d_OP_init_16 : decode prog_8_method_1_code 16 = .ok (.iconst (-1), 1) := by decide +kernel
theorem d_OP_init_17 : decode prog_8_method_1_code 17 = .ok (.putfield 18, 3) := by decide +kernel
theorem d_OP_init_20 : decode prog_8_method_1_code 20 = .ok (.aload_n 0, 1) := by decide +kernel
theorem d_OP_init_21 : decode prog_8_method_1_code 21 = .ok (.lconst 0, 1) := by decide +kernel
theorem d_OP_init_22 : decode prog_8_method_1_code 22 = .ok (.putfield 22, 3) := by decide +kernel
theorem d_OP_init_25 : decode prog_8_method_1_code 25 = .ok (.aload_n 0, 1) := by decide +kernel
theorem d_OP_init_26 : decode prog_8_method_1_code 26 = .ok (.iconst (-1), 1) := by decide +kernel
theorem d_OP_init_27 : decode prog_8_method_1_code 27 = .ok (.putfield 26, 3) := by decide +kernel
theorem d_OP_init_30 : decode prog_8_method_1_code 30 = .ok (.aload_n 0, 1) := by decide +kernel
theorem d_OP_init_31 : decode prog_8_method_1_code 31 = .ok (.ldc 29, 2) := by decide +kernel
theorem d_OP_init_33 : decode prog_8_method_1_code 33 = .ok (.putfield 30, 3) := by decide +kernel
theorem d_OP_init_36 : decode prog_8_method_1_code 36 = .ok (.aload_n 0, 1) := by decide +kernel
theorem d_OP_init_37 : decode prog_8_method_1_code 37 = .ok (.ldc 29, 2) := by decide +kernel
theorem d_OP_init_39 : decode prog_8_method_1_code 39 = .ok (.putfield 33, 3) := by decide +kernel
theorem d_OP_init_42 : decode prog_8_method_1_code 42 = .ok (.aload_n 0, 1) := by decide +kernel
theorem d_OP_init_43 : decode prog_8_method_1_code 43 = .ok (.iconst (-1), 1) := by decide +kernel
theorem d_OP_init_44 : decode prog_8_method_1_code 44 = .ok (.putfield 36, 3) := by decide +kernel
theorem d_OP_init_47 : decode prog_8_method_1_code 47 = .ok (.aload_n 0, 1) := by decide +kernel
theorem d_OP_init_48 : decode prog_8_method_1_code 48 = .ok (.aload_n 1, 1) := by decide +kernel
theorem d_OP_init_49 : decode prog_8_method_1_code 49 = .ok (.putfield 39, 3) := by decide +kernel
theorem d_OP_init_52 : decode prog_8_method_1_code 52 = .ok (.return_, 1) := by decide +kernel
def y_OP_hasBegun : MethodName := ⟨"PageMaker$OpenPage", "hasBegun", "()Z"⟩
def w_OP_hasBegun : List Cond := .code y_OP_hasBegun prog_8_method_2_code 1 (some .boolean) :: TB
theorem d_OP_hasBegun_0 : decode prog_8_method_2_code 0 = .ok (.aload_n 0, 1) := by decide +kernel
theorem d_OP_hasBegun_1 : decode prog_8_method_2_code 1 = .ok (.getfield 18, 3) := by decide +kernel
theorem d_OP_hasBegun_4 : decode prog_8_method_2_code 4 = .ok (.iconst (-1), 1) := by decide +kernel
theorem d_OP_hasBegun_5 : decode prog_8_method_2_code 5 = .ok (.if_icmp .eq 7, 3) := by decide +kernel
theorem d_OP_hasBegun_8 : decode prog_8_method_2_code 8 = .ok (.iconst 1, 1) := by decide +kernel
theorem d_OP_hasBegun_9 : decode prog_8_method_2_code 9 = .ok (.goto 4, 3) := by decide +kernel
theorem d_OP_hasBegun_12 : decode prog_8_method_2_code 12 = .ok (.iconst 0, 1) := by decide +kernel
theorem d_OP_hasBegun_13 : decode prog_8_method_2_code 13 = .ok (.ireturn, 1) := by decide +kernel
def y_OP_begin : MethodName := ⟨"PageMaker$OpenPage", "begin", "(ILPageMaker$Box;LPageMaker$Frame;)V"⟩
def w_OP_begin : List Cond := .code y_OP_begin prog_8_method_3_code 4 none :: TB
theorem d_OP_begin_0 : decode prog_8_method_3_code 0 = .ok (.aload_n 0, 1) := by decide +kernel
theorem d_OP_begin_1 : decode prog_8_method_3_code 1 = .ok (.iload_n 1, 1) := by decide +kernel
theorem d_OP_begin_2 : decode prog_8_method_3_code 2 = .ok (.putfield 18, 3) := by decide +kernel
theorem d_OP_begin_5 : decode prog_8_method_3_code 5 = .ok (.aload_n 0, 1) := by decide +kernel
theorem d_OP_begin_6 : decode prog_8_method_3_code 6 = .ok (.aload_n 3, 1) := by decide +kernel
theorem d_OP_begin_7 : decode prog_8_method_3_code 7 = .ok (.putfield 39, 3) := by decide +kernel
theorem d_OP_begin_10 : decode prog_8_method_3_code 10 = .ok (.aload_n 0, 1) := by decide +kernel
theorem d_OP_begin_11 : decode prog_8_method_3_code 11 = .ok (.getfield 12, 3) := by decide +kernel
theorem d_OP_begin_14 : decode prog_8_method_3_code 14 = .ok (.aload_n 0, 1) := by decide +kernel
theorem d_OP_begin_15 : decode prog_8_method_3_code 15 = .ok (.getfield 39, 3) := by decide +kernel
theorem d_OP_begin_18 : decode prog_8_method_3_code 18 = .ok (.aload_n 2, 1) := by decide +kernel
theorem d_OP_begin_19 : decode prog_8_method_3_code 19 = .ok (.invokevirtual 43, 3) := by decide +kernel
theorem d_OP_begin_22 : decode prog_8_method_3_code 22 = .ok (.aload_n 0, 1) := by decide +kernel
theorem d_OP_begin_23 : decode prog_8_method_3_code 23 = .ok (.aload_n 2, 1) := by decide +kernel
theorem d_OP_begin_24 : decode prog_8_method_3_code 24 = .ok (.invokevirtual 47, 3) := by decide +kernel
theorem d_OP_begin_27 : decode prog_8_method_3_code 27 = .ok (.return_, 1) := by decide +kernel
def y_OP_add : MethodName := ⟨"PageMaker$OpenPage", "add", "(LPageMaker$Item;)V"⟩
def w_OP_add : List Cond := .code y_OP_add prog_8_method_4_code 2 none :: TB
theorem d_OP_add_0 : decode prog_8_method_4_code 0 = .ok (.aload_n 0, 1) := by decide +kernel
theorem d_OP_add_1 : decode prog_8_method_4_code 1 = .ok (.aload_n 0, 1) := by decide +kernel
theorem d_OP_add_2 : decode prog_8_method_4_code 2 = .ok (.getfield 12, 3) := by decide +kernel
theorem d_OP_add_5 : decode prog_8_method_4_code 5 = .ok (.getfield 51, 3) := by decide +kernel
theorem d_OP_add_8 : decode prog_8_method_4_code 8 = .ok (.putfield 22, 3) := by decide +kernel
theorem d_OP_add_11 : decode prog_8_method_4_code 11 = .ok (.aload_n 1, 1) := by decide +kernel
theorem d_OP_add_12 : decode prog_8_method_4_code 12 = .ok (.aload_n 0, 1) := by decide +kernel
theorem d_OP_add_13 : decode prog_8_method_4_code 13 = .ok (.getfield 12, 3) := by decide +kernel
theorem d_OP_add_16 : decode prog_8_method_4_code 16 = .ok (.aload_n 0, 1) := by decide +kernel
theorem d_OP_add_17 : decode prog_8_method_4_code 17 = .ok (.getfield 39, 3) := by decide +kernel
theorem d_OP_add_20 : decode prog_8_method_4_code 20 = .ok (.invokevirtual 54, 3) := by decide +kernel
theorem d_OP_add_23 : decode prog_8_method_4_code 23 = .ok (.return_, 1) := by decide +kernel
def y_OP_endsAtBreak : MethodName := ⟨"PageMaker$OpenPage", "endsAtBreak", "(IJI)Z"⟩
def w_OP_endsAtBreak : List Cond := .code y_OP_endsAtBreak prog_8_method_5_code 7 (some .boolean) :: TB
theorem d_OP_endsAtBreak_0 : decode prog_8_method_5_code 0 = .ok (.aload_n 0, 1) := by decide +kernel
theorem d_OP_endsAtBreak_1 : decode prog_8_method_5_code 1 = .ok (.getfield 12, 3) := by decide +kernel
theorem d_OP_endsAtBreak_4 : decode prog_8_method_5_code 4 = .ok (.aload_n 0, 1) := by decide +kernel
theorem d_OP_endsAtBreak_5 : decode prog_8_method_5_code 5 = .ok (.getfield 39, 3) := by decide +kernel
theorem d_OP_endsAtBreak_8 : decode prog_8_method_5_code 8 = .ok (.getfield 60, 3) := by decide +kernel
theorem d_OP_endsAtBreak_11 : decode prog_8_method_5_code 11 = .ok (.i2l, 1) := by decide +kernel
theorem d_OP_endsAtBreak_12 : decode prog_8_method_5_code 12 = .ok (.lload_n 2, 1) := by decide +kernel
theorem d_OP_endsAtBreak_13 : decode prog_8_method_5_code 13 = .ok (.lsub, 1) := by decide +kernel
theorem d_OP_endsAtBreak_14 : decode prog_8_method_5_code 14 = .ok (.invokevirtual 65, 3) := by decide +kernel
theorem d_OP_endsAtBreak_17 : decode prog_8_method_5_code 17 = .ok (.istore 5, 2) := by decide +kernel
theorem d_OP_endsAtBreak_19 : decode prog_8_method_5_code 19 = .ok (.iload 5, 2) := by decide +kernel
theorem d_OP_endsAtBreak_21 : decode prog_8_method_5_code 21 = .ok (.iload 4, 2) := by decide +kernel
theorem d_OP_endsAtBreak_23 : decode prog_8_method_5_code 23 = .ok (.invokestatic 69, 3) := by decide +kernel
theorem d_OP_endsAtBreak_26 : decode prog_8_method_5_code 26 = .ok (.istore 6, 2) := by decide +kernel
theorem d_OP_endsAtBreak_28 : decode prog_8_method_5_code 28 = .ok (.iload 6, 2) := by decide +kernel
theorem d_OP_endsAtBreak_30 : decode prog_8_method_5_code 30 = .ok (.aload_n 0, 1) := by decide +kernel
theorem d_OP_endsAtBreak_31 : decode prog_8_method_5_code 31 = .ok (.getfield 30, 3) := by decide +kernel
theorem d_OP_endsAtBreak_34 : decode prog_8_method_5_code 34 = .ok (.if_icmp .gt 20, 3) := by decide +kernel
theorem d_OP_endsAtBreak_37 : decode prog_8_method_5_code 37 = .ok (.aload_n 0, 1) := by decide +kernel
theorem d_OP_endsAtBreak_38 : decode prog_8_method_5_code 38 = .ok (.iload_n 1, 1) := by decide +kernel
theorem d_OP_endsAtBreak_39 : decode prog_8_method_5_code 39 = .ok (.putfield 26, 3) := by decide +kernel
theorem d_OP_endsAtBreak_42 : decode prog_8_method_5_code 42 = .ok (.aload_n 0, 1) := by decide +kernel
theorem d_OP_endsAtBreak_43 : decode prog_8_method_5_code 43 = .ok (.iload 6, 2) := by decide +kernel
theorem d_OP_endsAtBreak_45 : decode prog_8_method_5_code 45 = .ok (.putfield 30, 3) := by decide +kernel
theorem d_OP_endsAtBreak_48 : decode prog_8_method_5_code 48 = .ok (.aload_n 0, 1) := by decide +kernel
theorem d_OP_endsAtBreak_49 : decode prog_8_method_5_code 49 = .ok (.iload 5, 2) := by decide +kernel
theorem d_OP_endsAtBreak_51 : decode prog_8_method_5_code 51 = .ok (.putfield 33, 3) := by decide +kernel
theorem d_OP_endsAtBreak_54 : decode prog_8_method_5_code 54 = .ok (.iload 6, 2) := by decide +kernel
theorem d_OP_endsAtBreak_56 : decode prog_8_method_5_code 56 = .ok (.ldc 29, 2) := by decide +kernel
theorem d_OP_endsAtBreak_58 : decode prog_8_method_5_code 58 = .ok (.if_icmp .eq 13, 3) := by decide +kernel
theorem d_OP_endsAtBreak_61 : decode prog_8_method_5_code 61 = .ok (.iload 4, 2) := by decide +kernel
theorem d_OP_endsAtBreak_63 : decode prog_8_method_5_code 63 = .ok (.sipush (-10000), 3) := by decide +kernel
theorem d_OP_endsAtBreak_66 : decode prog_8_method_5_code 66 = .ok (.if_icmp .le 5, 3) := by decide +kernel
theorem d_OP_endsAtBreak_69 : decode prog_8_method_5_code 69 = .ok (.iconst 0, 1) := by decide +kernel
theorem d_OP_endsAtBreak_70 : decode prog_8_method_5_code 70 = .ok (.ireturn, 1) := by decide +kernel
theorem d_OP_endsAtBreak_71 : decode prog_8_method_5_code 71 = .ok (.aload_n 0, 1) := by decide +kernel
theorem d_OP_endsAtBreak_72 : decode prog_8_method_5_code 72 = .ok (.iload_n 1, 1) := by decide +kernel
theorem d_OP_endsAtBreak_73 : decode prog_8_method_5_code 73 = .ok (.putfield 36, 3) := by decide +kernel
theorem d_OP_endsAtBreak_76 : decode prog_8_method_5_code 76 = .ok (.iconst 1, 1) := by decide +kernel
theorem d_OP_endsAtBreak_77 : decode prog_8_method_5_code 77 = .ok (.ireturn, 1) := by decide +kernel
def y_PE_init : MethodName := ⟨"PageMaker$Penalty", "<init>", "(I)V"⟩
def w_PE_init : List Cond := .code y_PE_init prog_9_method_1_code 2 none :: TB
theorem d_PE_init_0 : decode prog_9_method_1_code 0 = .ok (.aload_n 0, 1) := by decide +kernel
theorem d_PE_init_1 : decode prog_9_method_1_code 1 = .ok (.invokespecial 1, 3) := by decide +kernel
theorem d_PE_init_4 : decode prog_9_method_1_code 4 = .ok (.aload_n 0, 1) := by decide +kernel
theorem d_PE_init_5 : decode prog_9_method_1_code 5 = .ok (.iload_n 1, 1) := by decide +kernel
theorem d_PE_init_6 : decode prog_9_method_1_code 6 = .ok (.putfield 7, 3) := by decide +kernel
theorem d_PE_init_9 : decode prog_9_method_1_code 9 = .ok (.return_, 1) := by decide +kernel
def y_PE_addTo : MethodName := ⟨"PageMaker$Penalty", "addTo", "(LPageMaker$Totals;LPageMaker$Frame;)V"⟩
def w_PE_addTo : List Cond := .code y_PE_addTo prog_9_method_2_code 3 none :: TB
theorem d_PE_addTo_0 : decode prog_9_method_2_code 0 = .ok (.return_, 1) := by decide +kernel
def y_TO_init : MethodName := ⟨"PageMaker$Totals", "<init>", "()V"⟩
def w_TO_init : List Cond := .code y_TO_init prog_10_method_1_code 1 none :: TB
theorem d_TO_init_0 : decode prog_10_method_1_code 0 = .ok (.aload_n 0, 1) := by decide +kernel
theorem d_TO_init_1 : decode prog_10_method_1_code 1 = .ok (.invokespecial 3, 3) := by decide +kernel
theorem d_TO_init_4 : decode prog_10_method_1_code 4 = .ok (.aload_n 0, 1) := by decide +kernel
theorem d_TO_init_5 : decode prog_10_method_1_code 5 = .ok (.iconst 4, 1) := by decide +kernel
theorem d_TO_init_6 : decode prog_10_method_1_code 6 = .ok (.newarray .long, 2) := by decide +kernel
theorem d_TO_init_8 : decode prog_10_method_1_code 8 = .ok (.putfield 9, 3) := by decide +kernel
theorem d_TO_init_11 : decode prog_10_method_1_code 11 = .ok (.aload_n 0, 1) := by decide +kernel
theorem d_TO_init_12 : decode prog_10_method_1_code 12 = .ok (.lconst 0, 1) := by decide +kernel
theorem d_TO_init_13 : decode prog_10_method_1_code 13 = .ok (.putfield 15, 3) := by decide +kernel
theorem d_TO_init_16 : decode prog_10_method_1_code 16 = .ok (.aload_n 0, 1) := by decide +kernel
theorem d_TO_init_17 : decode prog_10_method_1_code 17 = .ok (.lconst 0, 1) := by decide +kernel
theorem d_TO_init_18 : decode prog_10_method_1_code 18 = .ok (.putfield 19, 3) := by decide +kernel
theorem d_TO_init_21 : decode prog_10_method_1_code 21 = .ok (.aload_n 0, 1) := by decide +kernel
theorem d_TO_init_22 : decode prog_10_method_1_code 22 = .ok (.lconst 0, 1) := by decide +kernel
theorem d_TO_init_23 : decode prog_10_method_1_code 23 = .ok (.putfield 22, 3) := by decide +kernel
theorem d_TO_init_26 : decode prog_10_method_1_code 26 = .ok (.return_, 1) := by decide +kernel
def y_TO_addTopGlue : MethodName := ⟨"PageMaker$Totals", "addTopGlue", "(LPageMaker$Frame;LPageMaker$Box;)V"⟩
def w_TO_addTopGlue : List Cond := .code y_TO_addTopGlue prog_10_method_2_code 3 none :: TB
theorem d_TO_addTopGlue_0 : decode prog_10_method_2_code 0 = .ok (.aload_n 0, 1) := by decide +kernel
theorem d_TO_addTopGlue_1 : decode prog_10_method_2_code 1 = .ok (.aload_n 1, 1) := by decide +kernel
theorem d_TO_addTopGlue_2 : decode prog_10_method_2_code 2 = .ok (.getfield 25, 3) := by decide +kernel
theorem d_TO_addTopGlue_5 : decode prog_10_method_2_code 5 = .ok (.i2l, 1) := by decide +kernel
theorem d_TO_addTopGlue_6 : decode prog_10_method_2_code 6 = .ok (.aload_n 2, 1) := by decide +kernel
theorem d_TO_addTopGlue_7 : decode prog_10_method_2_code 7 = .ok (.getfield 31, 3) := by decide +kernel
theorem d_TO_addTopGlue_10 : decode prog_10_method_2_code 10 = .ok (.i2l, 1) := by decide +kernel
theorem d_TO_addTopGlue_11 : decode prog_10_method_2_code 11 = .ok (.lsub, 1) := by decide +kernel
theorem d_TO_addTopGlue_12 : decode prog_10_method_2_code 12 = .ok (.lconst 0, 1) := by decide +kernel
theorem d_TO_addTopGlue_13 : decode prog_10_method_2_code 13 = .ok (.invokestatic 36, 3) := by decide +kernel
theorem d_TO_addTopGlue_16 : decode prog_10_method_2_code 16 = .ok (.invokevirtual 42, 3) := by decide +kernel
theorem d_TO_addTopGlue_19 : decode prog_10_method_2_code 19 = .ok (.return_, 1) := by decide +kernel
def y_TO_addSpace : MethodName := ⟨"PageMaker$Totals", "addSpace", "(J)V"⟩
def w_TO_addSpace : List Cond := .code y_TO_addSpace prog_10_method_3_code 3 none :: TB
theorem d_TO_addSpace_0 : decode prog_10_method_3_code 0 = .ok (.aload_n 0, 1) := by decide +kernel
theorem d_TO_addSpace_1 : decode prog_10_method_3_code 1 = .ok (.dup, 1) := by decide +kernel
theorem d_TO_addSpace_2 : decode prog_10_method_3_code 2 = .ok (.getfield 15, 3) := by decide +kernel
theorem d_TO_addSpace_5 : decode prog_10_method_3_code 5 = .ok (.aload_n 0, 1) := by decide +kernel
theorem d_TO_addSpace_6 : decode prog_10_method_3_code 6 = .ok (.getfield 19, 3) := by decide +kernel
theorem d_TO_addSpace_9 : decode prog_10_method_3_code 9 = .ok (.lload_n 1, 1) := by decide +kernel
theorem d_TO_addSpace_10 : decode prog_10_method_3_code 10 = .ok (.ladd, 1) := by decide +kernel
theorem d_TO_addSpace_11 : decode prog_10_method_3_code 11 = .ok (.ladd, 1) := by decide +kernel
theorem d_TO_addSpace_12 : decode prog_10_method_3_code 12 = .ok (.putfield 15, 3) := by decide +kernel
theorem d_TO_addSpace_15 : decode prog_10_method_3_code 15 = .ok (.aload_n 0, 1) := by decide +kernel
theorem d_TO_addSpace_16 : decode prog_10_method_3_code 16 = .ok (.lconst 0, 1) := by decide +kernel
theorem d_TO_addSpace_17 : decode prog_10_method_3_code 17 = .ok (.putfield 19, 3) := by decide +kernel
theorem d_TO_addSpace_20 : decode prog_10_method_3_code 20 = .ok (.return_, 1) := by decide +kernel
def y_TO_greatestOrder : MethodName := ⟨"PageMaker$Totals", "greatestOrder", "()I"⟩
def w_TO_greatestOrder : List Cond := .code y_TO_greatestOrder prog_10_method_4_code 2 (some .int) :: TB
theorem d_TO_greatestOrder_0 : decode prog_10_method_4_code 0 = .ok (.iconst 3, 1) := by decide +kernel
theorem d_TO_greatestOrder_1 : decode prog_10_method_4_code 1 = .ok (.istore_n 1, 1) := by decide +kernel
theorem d_TO_greatestOrder_2 : decode prog_10_method_4_code 2 = .ok (.iload_n 1, 1) := by decide +kernel
theorem d_TO_greatestOrder_3 : decode prog_10_method_4_code 3 = .ok (.ifCond .le 22, 3) := by decide +kernel
theorem d_TO_greatestOrder_6 : decode prog_10_method_4_code 6 = .ok (.aload_n 0, 1) := by decide +kernel
theorem d_TO_greatestOrder_7 : decode prog_10_method_4_code 7 = .ok (.getfield 9, 3) := by decide +kernel
theorem d_TO_greatestOrder_10 : decode prog_10_method_4_code 10 = .ok (.iload_n 1, 1) := by decide +kernel
theorem d_TO_greatestOrder_11 : decode prog_10_method_4_code 11 = .ok (.laload, 1) := by decide +kernel
theorem d_TO_greatestOrder_12 : decode prog_10_method_4_code 12 = .ok (.lconst 0, 1) := by decide +kernel
theorem d_TO_greatestOrder_13 : decode prog_10_method_4_code 13 = .ok (.lcmp, 1) := by decide +kernel
theorem d_TO_greatestOrder_14 : decode prog_10_method_4_code 14 = .ok (.ifCond .le 5, 3) := by decide +kernel
theorem d_TO_greatestOrder_17 : decode prog_10_method_4_code 17 = .ok (.iload_n 1, 1) := by decide +kernel
theorem d_TO_greatestOrder_18 : decode prog_10_method_4_code 18 = .ok (.ireturn, 1) := by decide +kernel
theorem d_TO_greatestOrder_19 : decode prog_10_method_4_code 19 = .ok (.iinc 1 (-1), 3) := by decide +kernel
theorem d_TO_greatestOrder_22 : decode prog_10_method_4_code 22 = .ok (.goto (-20), 3) := by decide +kernel
theorem d_TO_greatestOrder_25 : decode prog_10_method_4_code 25 = .ok (.iconst 0, 1) := by decide +kernel
theorem d_TO_greatestOrder_26 : decode prog_10_method_4_code 26 = .ok (.ireturn, 1) := by decide +kernel
def y_TO_badnessOfExcess : MethodName := ⟨"PageMaker$Totals", "badnessOfExcess", "(J)I"⟩
def w_TO_badnessOfExcess : List Cond := .code y_TO_badnessOfExcess prog_10_method_5_code 3 (some .int) :: TB
theorem d_TO_badnessOfExcess_0 : decode prog_10_method_5_code 0 = .ok (.lload_n 1, 1) := by decide +kernel
theorem d_TO_badnessOfExcess_1 : decode prog_10_method_5_code 1 = .ok (.lconst 0, 1) := by decide +kernel
theorem d_TO_badnessOfExcess_2 : decode prog_10_method_5_code 2 = .ok (.lcmp, 1) := by decide +kernel
theorem d_TO_badnessOfExcess_3 : decode prog_10_method_5_code 3 = .ok (.ifCond .le 25, 3) := by decide +kernel
theorem d_TO_badnessOfExcess_6 : decode prog_10_method_5_code 6 = .ok (.aload_n 0, 1) := by decide +kernel
theorem d_TO_badnessOfExcess_7 : decode prog_10_method_5_code 7 = .ok (.invokevirtual 46, 3) := by decide +kernel
theorem d_TO_badnessOfExcess_10 : decode prog_10_method_5_code 10 = .ok (.ifCond .le 7, 3) := by decide +kernel
theorem d_TO_badnessOfExcess_13 : decode prog_10_method_5_code 13 = .ok (.iconst 0, 1) := by decide +kernel
theorem d_TO_badnessOfExcess_14 : decode prog_10_method_5_code 14 = .ok (.goto 13, 3) := by decide +kernel
theorem d_TO_badnessOfExcess_17 : decode prog_10_method_5_code 17 = .ok (.lload_n 1, 1) := by decide +kernel
theorem d_TO_badnessOfExcess_18 : decode prog_10_method_5_code 18 = .ok (.aload_n 0, 1) := by decide +kernel
theorem d_TO_badnessOfExcess_19 : decode prog_10_method_5_code 19 = .ok (.getfield 9, 3) := by decide +kernel
theorem d_TO_badnessOfExcess_22 : decode prog_10_method_5_code 22 = .ok (.iconst 0, 1) := by decide +kernel
theorem d_TO_badnessOfExcess_23 : decode prog_10_method_5_code 23 = .ok (.laload, 1) := by decide +kernel
theorem d_TO_badnessOfExcess_24 : decode prog_10_method_5_code 24 = .ok (.invokestatic 50, 3) := by decide +kernel
theorem d_TO_badnessOfExcess_27 : decode prog_10_method_5_code 27 = .ok (.ireturn, 1) := by decide +kernel
theorem d_TO_badnessOfExcess_28 : decode prog_10_method_5_code 28 = .ok (.lload_n 1, 1) := by decide +kernel
theorem d_TO_badnessOfExcess_29 : decode prog_10_method_5_code 29 = .ok (.lconst 0, 1) := by decide +kernel
theorem d_TO_badnessOfExcess_30 : decode prog_10_method_5_code 30 = .ok (.lcmp, 1) := by decide +kernel
theorem d_TO_badnessOfExcess_31 : decode prog_10_method_5_code 31 = .ok (.ifCond .ne 5, 3) := by decide +kernel
theorem d_TO_badnessOfExcess_34 : decode prog_10_method_5_code 34 = .ok (.iconst 0, 1) := by decide +kernel
theorem d_TO_badnessOfExcess_35 : decode prog_10_method_5_code 35 = .ok (.ireturn, 1) := by decide +kernel
theorem d_TO_badnessOfExcess_36 : decode prog_10_method_5_code 36 = .ok (.lload_n 1, 1) := by decide +kernel
theorem d_TO_badnessOfExcess_37 : decode prog_10_method_5_code 37 = .ok (.lneg, 1) := by decide +kernel
theorem d_TO_badnessOfExcess_38 : decode prog_10_method_5_code 38 = .ok (.aload_n 0, 1) := by decide +kernel
theorem d_TO_badnessOfExcess_39 : decode prog_10_method_5_code 39 = .ok (.getfield 22, 3) := by decide +kernel
theorem d_TO_badnessOfExcess_42 : decode prog_10_method_5_code 42 = .ok (.lcmp, 1) := by decide +kernel
theorem d_TO_badnessOfExcess_43 : decode prog_10_method_5_code 43 = .ok (.ifCond .le 8, 3) := by decide +kernel
theorem d_TO_badnessOfExcess_46 : decode prog_10_method_5_code 46 = .ok (.ldc 54, 2) := by decide +kernel
theorem d_TO_badnessOfExcess_48 : decode prog_10_method_5_code 48 = .ok (.goto 12, 3) := by decide +kernel
theorem d_TO_badnessOfExcess_51 : decode prog_10_method_5_code 51 = .ok (.lload_n 1, 1) := by decide +kernel
theorem d_TO_badnessOfExcess_52 : decode prog_10_method_5_code 52 = .ok (.lneg, 1) := by decide +kernel
theorem d_TO_badnessOfExcess_53 : decode prog_10_method_5_code 53 = .ok (.aload_n 0, 1) := by decide +kernel
theorem d_TO_badnessOfExcess_54 : decode prog_10_method_5_code 54 = .ok (.getfield 22, 3) := by decide +kernel
theorem d_TO_badnessOfExcess_57 : decode prog_10_method_5_code 57 = .ok (.invokestatic 50, 3) := by decide +kernel
theorem d_TO_badnessOfExcess_60 : decode prog_10_method_5_code 60 = .ok (.ireturn, 1) := by decide +kernel
end
section
/-! methods of PageMaker -/
def y_PM_init : MethodName := ⟨"PageMaker", "<init>", "()V"⟩
def w_PM_init : List Cond := .code y_PM_init prog_1_method_1_code 1 none :: TB
theorem d_PM_init_0 : decode prog_1_method_1_code 0 = .ok (.aload_n 0, 1) := by decide +kernel
theorem d_PM_init_1 : decode prog_1_method_1_code 1 = .ok (.invokespecial 3, 3) := by decide +kernel
theorem d_PM_init_4 : decode prog_1_method_1_code 4 = .ok (.aload_n 0, 1) := by decide +kernel
theorem d_PM_init_5 : decode prog_1_method_1_code 5 = .ok (.new 9, 3) := by decide +kernel
theorem d_PM_init_8 : decode prog_1_method_1_code 8 = .ok (.dup, 1) := by decide +kernel
theorem d_PM_init_9 : decode prog_1_method_1_code 9 = .ok (.invokespecial 11, 3) := by decide +kernel
theorem d_PM_init_12 : decode prog_1_method_1_code 12 = .ok (.putfield 12, 3) := by decide +kernel
theorem d_PM_init_15 : decode prog_1_method_1_code 15 = .ok (.aload_n 0, 1) := by decide +kernel
theorem d_PM_init_16 : decode prog_1_method_1_code 16 = .ok (.new 9, 3) := by decide +kernel
theorem d_PM_init_19 : decode prog_1_method_1_code 19 = .ok (.dup, 1) := by decide +kernel
theorem d_PM_init_20 : decode prog_1_method_1_code 20 = .ok (.invokespecial 11, 3) := by decide +kernel
theorem d_PM_init_23 : decode prog_1_method_1_code 23 = .ok (.putfield 16, 3) := by decide +kernel
theorem d_PM_init_26 : decode prog_1_method_1_code 26 = .ok (.aload_n 0, 1) := by decide +kernel
theorem d_PM_init_27 : decode prog_1_method_1_code 27 = .ok (.new 19, 3) := by decide +kernel
theorem d_PM_init_30 : decode prog_1_method_1_code 30 = .ok (.dup, 1) := by decide +kernel
theorem d_PM_init_31 : decode prog_1_method_1_code 31 = .ok (.ldc 21, 2) := by decide +kernel
theorem d_PM_init_33 : decode prog_1_method_1_code 33 = .ok (.ldc 22, 2) := by decide +kernel
theorem d_PM_init_35 : decode prog_1_method_1_code 35 = .ok (.ldc 23, 2) := by decide +kernel
theorem d_PM_init_37 : decode prog_1_method_1_code 37 = .ok (.invokespecial 24, 3) := by decide +kernel
theorem d_PM_init_40 : decode prog_1_method_1_code 40 = .ok (.putfield 27, 3) := by decide +kernel
theorem d_PM_init_43 : decode prog_1_method_1_code 43 = .ok (.aload_n 0, 1) := by decide +kernel
theorem d_PM_init_44 : decode prog_1_method_1_code 44 = .ok (.new 31, 3) := by decide +kernel
theorem d_PM_init_47 : decode prog_1_method_1_code 47 = .ok (.dup, 1) := by decide +kernel
theorem d_PM_init_48 : decode prog_1_method_1_code 48 = .ok (.aload_n 0, 1) := by decide +kernel
theorem d_PM_init_49 : decode prog_1_method_1_code 49 = .ok (.getfield 27, 3) := by decide +kernel
theorem d_PM_init_52 : decode prog_1_method_1_code 52 = .ok (.invokespecial 33, 3) := by decide +kernel
theorem d_PM_init_55 : decode prog_1_method_1_code 55 = .ok (.putfield 36, 3) := by decide +kernel
theorem d_PM_init_58 : decode prog_1_method_1_code 58 = .ok (.return_, 1) := by decide +kernel
def y_PM_frame : MethodName := ⟨"PageMaker", "frame", "(III)V"⟩
def w_PM_frame : List Cond := .code y_PM_frame prog_1_method_2_code 4 none :: TB
theorem d_PM_frame_0 : decode prog_1_method_2_code 0 = .ok (.iload_n 1, 1) := by decide +kernel
theorem d_PM_frame_1 : decode prog_1_method_2_code 1 = .ok (.invokestatic 40, 3) := by decide +kernel
theorem d_PM_frame_4 : decode prog_1_method_2_code 4 = .ok (.ifCond .eq 17, 3) := by decide +kernel
theorem d_PM_frame_7 : decode prog_1_method_2_code 7 = .ok (.iload_n 2, 1) := by decide +kernel
theorem d_PM_frame_8 : decode prog_1_method_2_code 8 = .ok (.invokestatic 44, 3) := by decide +kernel
theorem d_PM_frame_11 : decode prog_1_method_2_code 11 = .ok (.ifCond .eq 10, 3) := by decide +kernel
theorem d_PM_frame_14 : decode prog_1_method_2_code 14 = .ok (.iload_n 3, 1) := by decide +kernel
theorem d_PM_frame_15 : decode prog_1_method_2_code 15 = .ok (.invokestatic 40, 3) := by decide +kernel
theorem d_PM_frame_18 : decode prog_1_method_2_code 18 = .ok (.ifCond .ne 13, 3) := by decide +kernel
theorem d_PM_frame_21 : decode prog_1_method_2_code 21 = .ok (.new 47, 3) := by decide +kernel
theorem d_PM_frame_24 : decode prog_1_method_2_code 24 = .ok (.dup, 1) := by decide +kernel
theorem d_PM_frame_25 : decode prog_1_method_2_code 25 = .ok (.ldc 49, 2) := by decide +kernel
theorem d_PM_frame_27 : decode prog_1_method_2_code 27 = .ok (.invokespecial 51, 3) := by decide +kernel
theorem d_PM_frame_30 : decode prog_1_method_2_code 30 = .ok (.athrow, 1) := by decide +kernel
theorem d_PM_frame_31 : decode prog_1_method_2_code 31 = .ok (.aload_n 0, 1) := by decide +kernel
theorem d_PM_frame_32 : decode prog_1_method_2_code 32 = .ok (.new 19, 3) := by decide +kernel
theorem d_PM_frame_35 : decode prog_1_method_2_code 35 = .ok (.dup, 1) := by decide +kernel
theorem d_PM_frame_36 : decode prog_1_method_2_code 36 = .ok (.iload_n 1, 1) := by decide +kernel
theorem d_PM_frame_37 : decode prog_1_method_2_code 37 = .ok (.iload_n 2, 1) := by decide +kernel
theorem d_PM_frame_38 : decode prog_1_method_2_code 38 = .ok (.iload_n 3, 1) := by decide +kernel
theorem d_PM_frame_39 : decode prog_1_method_2_code 39 = .ok (.invokespecial 24, 3) := by decide +kernel
theorem d_PM_frame_42 : decode prog_1_method_2_code 42 = .ok (.putfield 27, 3) := by decide +kernel
theorem d_PM_frame_45 : decode prog_1_method_2_code 45 = .ok (.return_, 1) := by decide +kernel
def y_PM_box : MethodName := ⟨"PageMaker", "box", "(III)I"⟩
def w_PM_box : List Cond := .code y_PM_box prog_1_method_3_code 4 (some .int) :: TB
theorem d_PM_box_0 : decode prog_1_method_3_code 0 = .ok (.iload_n 1, 1) := by decide +kernel
theorem d_PM_box_1 : decode prog_1_method_3_code 1 = .ok (.ifCond .lt 17, 3) := by decide +kernel
theorem d_PM_box_4 : decode prog_1_method_3_code 4 = .ok (.iload_n 2, 1) := by decide +kernel
theorem d_PM_box_5 : decode prog_1_method_3_code 5 = .ok (.invokestatic 44, 3) := by decide +kernel
theorem d_PM_box_8 : decode prog_1_method_3_code 8 = .ok (.ifCond .eq 10, 3) := by decide +kernel
theorem d_PM_box_11 : decode prog_1_method_3_code 11 = .ok (.iload_n 3, 1) := by decide +kernel
theorem d_PM_box_12 : decode prog_1_method_3_code 12 = .ok (.invokestatic 44, 3) := by decide +kernel
theorem d_PM_box_15 : decode prog_1_method_3_code 15 = .ok (.ifCond .ne 13, 3) := by decide +kernel
theorem d_PM_box_18 : decode prog_1_method_3_code 18 = .ok (.new 47, 3) := by decide +kernel
theorem d_PM_box_21 : decode prog_1_method_3_code 21 = .ok (.dup, 1) := by decide +kernel
theorem d_PM_box_22 : decode prog_1_method_3_code 22 = .ok (.ldc 54, 2) := by decide +kernel
theorem d_PM_box_24 : decode prog_1_method_3_code 24 = .ok (.invokespecial 51, 3) := by decide +kernel
theorem d_PM_box_27 : decode prog_1_method_3_code 27 = .ok (.athrow, 1) := by decide +kernel
theorem d_PM_box_28 : decode prog_1_method_3_code 28 = .ok (.aload_n 0, 1) := by decide +kernel
theorem d_PM_box_29 : decode prog_1_method_3_code 29 = .ok (.invokevirtual 56, 3) := by decide +kernel
theorem d_PM_box_32 : decode prog_1_method_3_code 32 = .ok (.aload_n 0, 1) := by decide +kernel
theorem d_PM_box_33 : decode prog_1_method_3_code 33 = .ok (.new 59, 3) := by decide +kernel
theorem d_PM_box_36 : decode prog_1_method_3_code 36 = .ok (.dup, 1) := by decide +kernel
theorem d_PM_box_37 : decode prog_1_method_3_code 37 = .ok (.iload_n 2, 1) := by decide +kernel
theorem d_PM_box_38 : decode prog_1_method_3_code 38 = .ok (.iload_n 3, 1) := by decide +kernel
theorem d_PM_box_39 : decode prog_1_method_3_code 39 = .ok (.invokespecial 61, 3) := by decide +kernel
theorem d_PM_box_42 : decode prog_1_method_3_code 42 = .ok (.invokevirtual 64, 3) := by decide +kernel
theorem d_PM_box_45 : decode prog_1_method_3_code 45 = .ok (.ireturn, 1) := by decide +kernel
def y_PM_glue : MethodName := ⟨"PageMaker", "glue", "(IIII)I"⟩
def w_PM_glue : List Cond := .code y_PM_glue prog_1_method_4_code 5 (some .int) :: TB
theorem d_PM_glue_0 : decode prog_1_method_4_code 0 = .ok (.iload_n 1, 1) := by decide +kernel
theorem d_PM_glue_1 : decode prog_1_method_4_code 1 = .ok (.invokestatic 44, 3) := by decide +kernel
theorem d_PM_glue_4 : decode prog_1_method_4_code 4 = .ok (.ifCond .eq 18, 3) := by decide +kernel
theorem d_PM_glue_7 : decode prog_1_method_4_code 7 = .ok (.iload_n 2, 1) := by decide +kernel
theorem d_PM_glue_8 : decode prog_1_method_4_code 8 = .ok (.invokestatic 40, 3) := by decide +kernel
theorem d_PM_glue_11 : decode prog_1_method_4_code 11 = .ok (.ifCond .eq 11, 3) := by decide +kernel
theorem d_PM_glue_14 : decode prog_1_method_4_code 14 = .ok (.iload 4, 2) := by decide +kernel
theorem d_PM_glue_16 : decode prog_1_method_4_code 16 = .ok (.invokestatic 40, 3) := by decide +kernel
theorem d_PM_glue_19 : decode prog_1_method_4_code 19 = .ok (.ifCond .ne 13, 3) := by decide +kernel
theorem d_PM_glue_22 : decode prog_1_method_4_code 22 = .ok (.new 47, 3) := by decide +kernel
theorem d_PM_glue_25 : decode prog_1_method_4_code 25 = .ok (.dup, 1) := by decide +kernel
theorem d_PM_glue_26 : decode prog_1_method_4_code 26 = .ok (.ldc 68, 2) := by decide +kernel
theorem d_PM_glue_28 : decode prog_1_method_4_code 28 = .ok (.invokespecial 51, 3) := by decide +kernel
theorem d_PM_glue_31 : decode prog_1_method_4_code 31 = .ok (.athrow, 1) := by decide +kernel
theorem d_PM_glue_32 : decode prog_1_method_4_code 32 = .ok (.iload_n 3, 1) := by decide +kernel
theorem d_PM_glue_33 : decode prog_1_method_4_code 33 = .ok (.ifCond .lt 8, 3) := by decide +kernel
theorem d_PM_glue_36 : decode prog_1_method_4_code 36 = .ok (.iload_n 3, 1) := by decide +kernel
theorem d_PM_glue_37 : decode prog_1_method_4_code 37 = .ok (.iconst 4, 1) := by decide +kernel
theorem d_PM_glue_38 : decode prog_1_method_4_code 38 = .ok (.if_icmp .lt 13, 3) := by decide +kernel
theorem d_PM_glue_41 : decode prog_1_method_4_code 41 = .ok (.new 47, 3) := by decide +kernel
theorem d_PM_glue_44 : decode prog_1_method_4_code 44 = .ok (.dup, 1) := by decide +kernel
theorem d_PM_glue_45 : decode prog_1_method_4_code 45 = .ok (.ldc 70, 2) := by decide +kernel
theorem d_PM_glue_47 : decode prog_1_method_4_code 47 = .ok (.invokespecial 51, 3) := by decide +kernel
theorem d_PM_glue_50 : decode prog_1_method_4_code 50 = .ok (.athrow, 1) := by decide +kernel
theorem d_PM_glue_51 : decode prog_1_method_4_code 51 = .ok (.aload_n 0, 1) := by decide +kernel
theorem d_PM_glue_52 : decode prog_1_method_4_code 52 = .ok (.invokevirtual 56, 3) := by decide +kernel
theorem d_PM_glue_55 : decode prog_1_method_4_code 55 = .ok (.aload_n 0, 1) := by decide +kernel
theorem d_PM_glue_56 : decode prog_1_method_4_code 56 = .ok (.new 72, 3) := by decide +kernel
theorem d_PM_glue_59 : decode prog_1_method_4_code 59 = .ok (.dup, 1) := by decide +kernel
theorem d_PM_glue_60 : decode prog_1_method_4_code 60 = .ok (.iload_n 1, 1) := by decide +kernel
theorem d_PM_glue_61 : decode prog_1_method_4_code 61 = .ok (.iload_n 2, 1) := by decide +kernel
theorem d_PM_glue_62 : decode prog_1_method_4_code 62 = .ok (.iload_n 3, 1) := by decide +kernel
theorem d_PM_glue_63 : decode prog_1_method_4_code 63 = .ok (.iload 4, 2) := by decide +kernel
theorem d_PM_glue_65 : decode prog_1_method_4_code 65 = .ok (.invokespecial 74, 3) := by decide +kernel
theorem d_PM_glue_68 : decode prog_1_method_4_code 68 = .ok (.invokevirtual 64, 3) := by decide +kernel
theorem d_PM_glue_71 : decode prog_1_method_4_code 71 = .ok (.ireturn, 1) := by decide +kernel
def y_PM_kern : MethodName := ⟨"PageMaker", "kern", "(I)I"⟩
def w_PM_kern : List Cond := .code y_PM_kern prog_1_method_5_code 2 (some .int) :: TB
theorem d_PM_kern_0 : decode prog_1_method_5_code 0 = .ok (.iload_n 1, 1) := by decide +kernel
theorem d_PM_kern_1 : decode prog_1_method_5_code 1 = .ok (.invokestatic 44, 3) := by decide +kernel
theorem d_PM_kern_4 : decode prog_1_method_5_code 4 = .ok (.ifCond .ne 13, 3) := by decide +kernel
theorem d_PM_kern_7 : decode prog_1_method_5_code 7 = .ok (.new 47, 3) := by decide +kernel
theorem d_PM_kern_10 : decode prog_1_method_5_code 10 = .ok (.dup, 1) := by decide +kernel
theorem d_PM_kern_11 : decode prog_1_method_5_code 11 = .ok (.ldc 77, 2) := by decide +kernel
theorem d_PM_kern_13 : decode prog_1_method_5_code 13 = .ok (.invokespecial 51, 3) := by decide +kernel
theorem d_PM_kern_16 : decode prog_1_method_5_code 16 = .ok (.athrow, 1) := by decide +kernel
theorem d_PM_kern_17 : decode prog_1_method_5_code 17 = .ok (.aload_n 0, 1) := by decide +kernel
theorem d_PM_kern_18 : decode prog_1_method_5_code 18 = .ok (.invokevirtual 56, 3) := by decide +kernel
theorem d_PM_kern_21 : decode prog_1_method_5_code 21 = .ok (.aload_n 0, 1) := by decide +kernel
theorem d_PM_kern_22 : decode prog_1_method_5_code 22 = .ok (.new 79, 3) := by decide +kernel
theorem d_PM_kern_25 : decode prog_1_method_5_code 25 = .ok (.dup, 1) := by decide +kernel
theorem d_PM_kern_26 : decode prog_1_method_5_code 26 = .ok (.iload_n 1, 1) := by decide +kernel
theorem d_PM_kern_27 : decode prog_1_method_5_code 27 = .ok (.invokespecial 81, 3) := by decide +kernel
theorem d_PM_kern_30 : decode prog_1_method_5_code 30 = .ok (.invokevirtual 64, 3) := by decide +kernel
theorem d_PM_kern_33 : decode prog_1_method_5_code 33 = .ok (.ireturn, 1) := by decide +kernel
def y_PM_penalty : MethodName := ⟨"PageMaker", "penalty", "(I)I"⟩
def w_PM_penalty : List Cond := .code y_PM_penalty prog_1_method_6_code 2 (some .int) :: TB
theorem d_PM_penalty_0 : decode prog_1_method_6_code 0 = .ok (.iload_n 1, 1) := by decide +kernel
theorem d_PM_penalty_1 : decode prog_1_method_6_code 1 = .ok (.ldc 84, 2) := by decide +kernel
theorem d_PM_penalty_3 : decode prog_1_method_6_code 3 = .ok (.if_icmp .lt 9, 3) := by decide +kernel
theorem d_PM_penalty_6 : decode prog_1_method_6_code 6 = .ok (.iload_n 1, 1) := by decide +kernel
theorem d_PM_penalty_7 : decode prog_1_method_6_code 7 = .ok (.ldc 85, 2) := by decide +kernel
theorem d_PM_penalty_9 : decode prog_1_method_6_code 9 = .ok (.if_icmp .le 13, 3) := by decide +kernel
theorem d_PM_penalty_12 : decode prog_1_method_6_code 12 = .ok (.new 47, 3) := by decide +kernel
theorem d_PM_penalty_15 : decode prog_1_method_6_code 15 = .ok (.dup, 1) := by decide +kernel
theorem d_PM_penalty_16 : decode prog_1_method_6_code 16 = .ok (.ldc 86, 2) := by decide +kernel
theorem d_PM_penalty_18 : decode prog_1_method_6_code 18 = .ok (.invokespecial 51, 3) := by decide +kernel
theorem d_PM_penalty_21 : decode prog_1_method_6_code 21 = .ok (.athrow, 1) := by decide +kernel
theorem d_PM_penalty_22 : decode prog_1_method_6_code 22 = .ok (.aload_n 0, 1) := by decide +kernel
theorem d_PM_penalty_23 : decode prog_1_method_6_code 23 = .ok (.invokevirtual 56, 3) := by decide +kernel
theorem d_PM_penalty_26 : decode prog_1_method_6_code 26 = .ok (.aload_n 0, 1) := by decide +kernel
theorem d_PM_penalty_27 : decode prog_1_method_6_code 27 = .ok (.new 88, 3) := by decide +kernel
theorem d_PM_penalty_30 : decode prog_1_method_6_code 30 = .ok (.dup, 1) := by decide +kernel
theorem d_PM_penalty_31 : decode prog_1_method_6_code 31 = .ok (.iload_n 1, 1) := by decide +kernel
theorem d_PM_penalty_32 : decode prog_1_method_6_code 32 = .ok (.invokespecial 90, 3) := by decide +kernel
theorem d_PM_penalty_35 : decode prog_1_method_6_code 35 = .ok (.invokevirtual 64, 3) := by decide +kernel
theorem d_PM_penalty_38 : decode prog_1_method_6_code 38 = .ok (.ireturn, 1) := by decide +kernel
def y_PM_items : MethodName := ⟨"PageMaker", "items", "()I"⟩
def w_PM_items : List Cond := .code y_PM_items prog_1_method_7_code 1 (some .int) :: TB
theorem d_PM_items_0 : decode prog_1_method_7_code 0 = .ok (.aload_n 0, 1) := by decide +kernel
theorem d_PM_items_1 : decode prog_1_method_7_code 1 = .ok (.getfield 12, 3) := by decide +kernel
theorem d_PM_items_4 : decode prog_1_method_7_code 4 = .ok (.invokevirtual 91, 3) := by decide +kernel
theorem d_PM_items_7 : decode prog_1_method_7_code 7 = .ok (.ireturn, 1) := by decide +kernel
def y_PM_pages : MethodName := ⟨"PageMaker", "pages", "()I"⟩
def w_PM_pages : List Cond := .code y_PM_pages prog_1_method_8_code 1 (some .int) :: TB
theorem d_PM_pages_0 : decode prog_1_method_8_code 0 = .ok (.aload_n 0, 1) := by decide +kernel
theorem d_PM_pages_1 : decode prog_1_method_8_code 1 = .ok (.getfield 16, 3) := by decide +kernel
theorem d_PM_pages_4 : decode prog_1_method_8_code 4 = .ok (.invokevirtual 91, 3) := by decide +kernel
theorem d_PM_pages_7 : decode prog_1_method_8_code 7 = .ok (.ireturn, 1) := by decide +kernel
def y_PM_page : MethodName := ⟨"PageMaker", "page", "(II)J"⟩
def w_PM_page : List Cond := .code y_PM_page prog_1_method_9_code 4 (some .long) :: TB
theorem d_PM_page_0 : decode prog_1_method_9_code 0 = .ok (.aload_n 0, 1) := by decide +kernel
theorem d_PM_page_1 : decode prog_1_method_9_code 1 = .ok (.iload_n 1, 1) := by decide +kernel
theorem d_PM_page_2 : decode prog_1_method_9_code 2 = .ok (.invokevirtual 95, 3) := by decide +kernel
theorem d_PM_page_5 : decode prog_1_method_9_code 5 = .ok (.astore_n 3, 1) := by decide +kernel
theorem d_PM_page_6 : decode prog_1_method_9_code 6 = .ok (.iload_n 2, 1) := by decide +kernel
theorem d_PM_page_7 : decode prog_1_method_9_code 7 = .ok (.tableswitch 91 0 7 #[45, 51, 57, 63, 68, 74, 79, 85], 45) := by decide +kernel
theorem d_PM_page_52 : decode prog_1_method_9_code 52 = .ok (.aload_n 3, 1) := by decide +kernel
theorem d_PM_page_53 : decode prog_1_method_9_code 53 = .ok (.getfield 99, 3) := by decide +kernel
theorem d_PM_page_56 : decode prog_1_method_9_code 56 = .ok (.i2l, 1) := by decide +kernel
theorem d_PM_page_57 : decode prog_1_method_9_code 57 = .ok (.lreturn, 1) := by decide +kernel
theorem d_PM_page_58 : decode prog_1_method_9_code 58 = .ok (.aload_n 3, 1) := by decide +kernel
theorem d_PM_page_59 : decode prog_1_method_9_code 59 = .ok (.getfield 105, 3) := by decide +kernel
theorem d_PM_page_62 : decode prog_1_method_9_code 62 = .ok (.i2l, 1) := by decide +kernel
theorem d_PM_page_63 : decode prog_1_method_9_code 63 = .ok (.lreturn, 1) := by decide +kernel
theorem d_PM_page_64 : decode prog_1_method_9_code 64 = .ok (.aload_n 3, 1) := by decide +kernel
theorem d_PM_page_65 : decode prog_1_method_9_code 65 = .ok (.getfield 108, 3) := by decide +kernel
theorem d_PM_page_68 : decode prog_1_method_9_code 68 = .ok (.i2l, 1) := by decide +kernel
theorem d_PM_page_69 : decode prog_1_method_9_code 69 = .ok (.lreturn, 1) := by decide +kernel
theorem d_PM_page_70 : decode prog_1_method_9_code 70 = .ok (.aload_n 3, 1) := by decide +kernel
theorem d_PM_page_71 : decode prog_1_method_9_code 71 = .ok (.getfield 111, 3) := by decide +kernel
theorem d_PM_page_74 : decode prog_1_method_9_code 74 = .ok (.lreturn, 1) := by decide +kernel
theorem d_PM_page_75 : decode prog_1_method_9_code 75 = .ok (.aload_n 3, 1) := by decide +kernel
theorem d_PM_page_76 : decode prog_1_method_9_code 76 = .ok (.getfield 115, 3) := by decide +kernel
theorem d_PM_page_79 : decode prog_1_method_9_code 79 = .ok (.i2l, 1) := by decide +kernel
theorem d_PM_page_80 : decode prog_1_method_9_code 80 = .ok (.lreturn, 1) := by decide +kernel
theorem d_PM_page_81 : decode prog_1_method_9_code 81 = .ok (.aload_n 3, 1) := by decide +kernel
theorem d_PM_page_82 : decode prog_1_method_9_code 82 = .ok (.getfield 118, 3) := by decide +kernel
theorem d_PM_page_85 : decode prog_1_method_9_code 85 = .ok (.lreturn, 1) := by decide +kernel
theorem d_PM_page_86 : decode prog_1_method_9_code 86 = .ok (.aload_n 3, 1) := by decide +kernel
theorem d_PM_page_87 : decode prog_1_method_9_code 87 = .ok (.getfield 121, 3) := by decide +kernel
theorem d_PM_page_90 : decode prog_1_method_9_code 90 = .ok (.i2l, 1) := by decide +kernel
theorem d_PM_page_91 : decode prog_1_method_9_code 91 = .ok (.lreturn, 1) := by decide +kernel
theorem d_PM_page_92 : decode prog_1_method_9_code 92 = .ok (.aload_n 3, 1) := by decide +kernel
theorem d_PM_page_93 : decode prog_1_method_9_code 93 = .ok (.getfield 124, 3) := by decide +kernel
theorem d_PM_page_96 : decode prog_1_method_9_code 96 = .ok (.i2l, 1) := by decide +kernel
theorem d_PM_page_97 : decode prog_1_method_9_code 97 = .ok (.lreturn, 1) := by decide +kernel
theorem d_PM_page_98 : decode prog_1_method_9_code 98 = .ok (.new 127, 3) := by decide +kernel
theorem d_PM_page_101 : decode prog_1_method_9_code 101 = .ok (.dup, 1) := by decide +kernel
theorem d_PM_page_102 : decode prog_1_method_9_code 102 = .ok (.ldc 129, 2) := by decide +kernel
theorem d_PM_page_104 : decode prog_1_method_9_code 104 = .ok (.invokespecial 131, 3) := by decide +kernel
theorem d_PM_page_107 : decode prog_1_method_9_code 107 = .ok (.athrow, 1) := by decide +kernel
def y_PM_stands : MethodName := ⟨"PageMaker", "stands", "(II)J"⟩
def w_PM_stands : List Cond := .code y_PM_stands prog_1_method_10_code 6 (some .long) :: TB
theorem d_PM_stands_0 : decode prog_1_method_10_code 0 = .ok (.aload_n 0, 1) := by decide +kernel
theorem d_PM_stands_1 : decode prog_1_method_10_code 1 = .ok (.iload_n 1, 1) := by decide +kernel
theorem d_PM_stands_2 : decode prog_1_method_10_code 2 = .ok (.invokevirtual 95, 3) := by decide +kernel
theorem d_PM_stands_5 : decode prog_1_method_10_code 5 = .ok (.astore_n 3, 1) := by decide +kernel
theorem d_PM_stands_6 : decode prog_1_method_10_code 6 = .ok (.aload_n 0, 1) := by decide +kernel
theorem d_PM_stands_7 : decode prog_1_method_10_code 7 = .ok (.iload_n 2, 1) := by decide +kernel
theorem d_PM_stands_8 : decode prog_1_method_10_code 8 = .ok (.invokevirtual 132, 3) := by decide +kernel
theorem d_PM_stands_11 : decode prog_1_method_10_code 11 = .ok (.ifCond .eq 77, 3) := by decide +kernel
theorem d_PM_stands_14 : decode prog_1_method_10_code 14 = .ok (.aload_n 3, 1) := by decide +kernel
theorem d_PM_stands_15 : decode prog_1_method_10_code 15 = .ok (.iload_n 2, 1) := by decide +kernel
theorem d_PM_stands_16 : decode prog_1_method_10_code 16 = .ok (.invokevirtual 135, 3) := by decide +kernel
theorem d_PM_stands_19 : decode prog_1_method_10_code 19 = .ok (.ifCond .eq 69, 3) := by decide +kernel
theorem d_PM_stands_22 : decode prog_1_method_10_code 22 = .ok (.aload_n 0, 1) := by decide +kernel
theorem d_PM_stands_23 : decode prog_1_method_10_code 23 = .ok (.getfield 12, 3) := by decide +kernel
theorem d_PM_stands_26 : decode prog_1_method_10_code 26 = .ok (.iload_n 2, 1) := by decide +kernel
theorem d_PM_stands_27 : decode prog_1_method_10_code 27 = .ok (.invokevirtual 138, 3) := by decide +kernel
theorem d_PM_stands_30 : decode prog_1_method_10_code 30 = .ok (.astore 5, 2) := by decide +kernel
theorem d_PM_stands_32 : decode prog_1_method_10_code 32 = .ok (.aload 5, 2) := by decide +kernel
theorem d_PM_stands_34 : decode prog_1_method_10_code 34 = .ok (.instanceof 59, 3) := by decide +kernel
theorem d_PM_stands_37 : decode prog_1_method_10_code 37 = .ok (.ifCond .eq 51, 3) := by decide +kernel
theorem d_PM_stands_40 : decode prog_1_method_10_code 40 = .ok (.aload 5, 2) := by decide +kernel
theorem d_PM_stands_42 : decode prog_1_method_10_code 42 = .ok (.checkcast 59, 3) := by decide +kernel
theorem d_PM_stands_45 : decode prog_1_method_10_code 45 = .ok (.astore 4, 2) := by decide +kernel
theorem d_PM_stands_47 : decode prog_1_method_10_code 47 = .ok (.aload_n 0, 1) := by decide +kernel
theorem d_PM_stands_48 : decode prog_1_method_10_code 48 = .ok (.aload_n 3, 1) := by decide +kernel
theorem d_PM_stands_49 : decode prog_1_method_10_code 49 = .ok (.getfield 142, 3) := by decide +kernel
theorem d_PM_stands_52 : decode prog_1_method_10_code 52 = .ok (.aload_n 3, 1) := by decide +kernel
theorem d_PM_stands_53 : decode prog_1_method_10_code 53 = .ok (.getfield 99, 3) := by decide +kernel
theorem d_PM_stands_56 : decode prog_1_method_10_code 56 = .ok (.iload_n 2, 1) := by decide +kernel
theorem d_PM_stands_57 : decode prog_1_method_10_code 57 = .ok (.invokevirtual 145, 3) := by decide +kernel
theorem d_PM_stands_60 : decode prog_1_method_10_code 60 = .ok (.astore 5, 2) := by decide +kernel
theorem d_PM_stands_62 : decode prog_1_method_10_code 62 = .ok (.aload 5, 2) := by decide +kernel
theorem d_PM_stands_64 : decode prog_1_method_10_code 64 = .ok (.getfield 149, 3) := by decide +kernel
theorem d_PM_stands_67 : decode prog_1_method_10_code 67 = .ok (.aload 5, 2) := by decide +kernel
theorem d_PM_stands_69 : decode prog_1_method_10_code 69 = .ok (.getfield 154, 3) := by decide +kernel
theorem d_PM_stands_72 : decode prog_1_method_10_code 72 = .ok (.ladd, 1) := by decide +kernel
theorem d_PM_stands_73 : decode prog_1_method_10_code 73 = .ok (.aload 4, 2) := by decide +kernel
theorem d_PM_stands_75 : decode prog_1_method_10_code 75 = .ok (.getfield 157, 3) := by decide +kernel
theorem d_PM_stands_78 : decode prog_1_method_10_code 78 = .ok (.i2l, 1) := by decide +kernel
theorem d_PM_stands_79 : decode prog_1_method_10_code 79 = .ok (.ladd, 1) := by decide +kernel
theorem d_PM_stands_80 : decode prog_1_method_10_code 80 = .ok (.aload_n 3, 1) := by decide +kernel
theorem d_PM_stands_81 : decode prog_1_method_10_code 81 = .ok (.aload 5, 2) := by decide +kernel
theorem d_PM_stands_83 : decode prog_1_method_10_code 83 = .ok (.invokevirtual 160, 3) := by decide +kernel
theorem d_PM_stands_86 : decode prog_1_method_10_code 86 = .ok (.ladd, 1) := by decide +kernel
theorem d_PM_stands_87 : decode prog_1_method_10_code 87 = .ok (.lreturn, 1) := by decide +kernel
theorem d_PM_stands_88 : decode prog_1_method_10_code 88 = .ok (.new 127, 3) := by decide +kernel
theorem d_PM_stands_91 : decode prog_1_method_10_code 91 = .ok (.dup, 1) := by decide +kernel
theorem d_PM_stands_92 : decode prog_1_method_10_code 92 = .ok (.ldc 164, 2) := by decide +kernel
theorem d_PM_stands_94 : decode prog_1_method_10_code 94 = .ok (.invokespecial 131, 3) := by decide +kernel
theorem d_PM_stands_97 : decode prog_1_method_10_code 97 = .ok (.athrow, 1) := by decide +kernel
def y_PM_where : MethodName := ⟨"PageMaker", "where", "(I)I"⟩
def w_PM_where : List Cond := .code y_PM_where prog_1_method_11_code 3 (some .int) :: TB
theorem d_PM_where_0 : decode prog_1_method_11_code 0 = .ok (.aload_n 0, 1) := by decide +kernel
theorem d_PM_where_1 : decode prog_1_method_11_code 1 = .ok (.iload_n 1, 1) := by decide +kernel
theorem d_PM_where_2 : decode prog_1_method_11_code 2 = .ok (.invokevirtual 132, 3) := by decide +kernel
theorem d_PM_where_5 : decode prog_1_method_11_code 5 = .ok (.ifCond .ne 13, 3) := by decide +kernel
theorem d_PM_where_8 : decode prog_1_method_11_code 8 = .ok (.new 127, 3) := by decide +kernel
theorem d_PM_where_11 : decode prog_1_method_11_code 11 = .ok (.dup, 1) := by decide +kernel
theorem d_PM_where_12 : decode prog_1_method_11_code 12 = .ok (.ldc 166, 2) := by decide +kernel
theorem d_PM_where_14 : decode prog_1_method_11_code 14 = .ok (.invokespecial 131, 3) := by decide +kernel
theorem d_PM_where_17 : decode prog_1_method_11_code 17 = .ok (.athrow, 1) := by decide +kernel
theorem d_PM_where_18 : decode prog_1_method_11_code 18 = .ok (.iconst 0, 1) := by decide +kernel
theorem d_PM_where_19 : decode prog_1_method_11_code 19 = .ok (.istore_n 2, 1) := by decide +kernel
theorem d_PM_where_20 : decode prog_1_method_11_code 20 = .ok (.iload_n 2, 1) := by decide +kernel
theorem d_PM_where_21 : decode prog_1_method_11_code 21 = .ok (.aload_n 0, 1) := by decide +kernel
theorem d_PM_where_22 : decode prog_1_method_11_code 22 = .ok (.getfield 16, 3) := by decide +kernel
theorem d_PM_where_25 : decode prog_1_method_11_code 25 = .ok (.invokevirtual 91, 3) := by decide +kernel
theorem d_PM_where_28 : decode prog_1_method_11_code 28 = .ok (.if_icmp .ge 29, 3) := by decide +kernel
theorem d_PM_where_31 : decode prog_1_method_11_code 31 = .ok (.aload_n 0, 1) := by decide +kernel
theorem d_PM_where_32 : decode prog_1_method_11_code 32 = .ok (.getfield 16, 3) := by decide +kernel
theorem d_PM_where_35 : decode prog_1_method_11_code 35 = .ok (.iload_n 2, 1) := by decide +kernel
theorem d_PM_where_36 : decode prog_1_method_11_code 36 = .ok (.invokevirtual 138, 3) := by decide +kernel
theorem d_PM_where_39 : decode prog_1_method_11_code 39 = .ok (.checkcast 100, 3) := by decide +kernel
theorem d_PM_where_42 : decode prog_1_method_11_code 42 = .ok (.iload_n 1, 1) := by decide +kernel
theorem d_PM_where_43 : decode prog_1_method_11_code 43 = .ok (.invokevirtual 135, 3) := by decide +kernel
theorem d_PM_where_46 : decode prog_1_method_11_code 46 = .ok (.ifCond .eq 5, 3) := by decide +kernel
theorem d_PM_where_49 : decode prog_1_method_11_code 49 = .ok (.iload_n 2, 1) := by decide +kernel
theorem d_PM_where_50 : decode prog_1_method_11_code 50 = .ok (.ireturn, 1) := by decide +kernel
theorem d_PM_where_51 : decode prog_1_method_11_code 51 = .ok (.iinc 2 1, 3) := by decide +kernel
theorem d_PM_where_54 : decode prog_1_method_11_code 54 = .ok (.goto (-34), 3) := by decide +kernel
theorem d_PM_where_57 : decode prog_1_method_11_code 57 = .ok (.iconst (-1), 1) := by decide +kernel
theorem d_PM_where_58 : decode prog_1_method_11_code 58 = .ok (.ireturn, 1) := by decide +kernel
def y_PM_open : MethodName := ⟨"PageMaker", "open", "(I)J"⟩
def w_PM_open : List Cond := .code y_PM_open prog_1_method_12_code 2 (some .long) :: TB
theorem d_PM_open_0 : decode prog_1_method_12_code 0 = .ok (.iload_n 1, 1) := by decide +kernel
theorem d_PM_open_1 : decode prog_1_method_12_code 1 = .ok (.tableswitch 130 0 9 #[55, 64, 75, 86, 86, 86, 86, 101, 110, 119], 55) := by decide +kernel
theorem d_PM_open_56 : decode prog_1_method_12_code 56 = .ok (.aload_n 0, 1) := by decide +kernel
theorem d_PM_open_57 : decode prog_1_method_12_code 57 = .ok (.getfield 36, 3) := by decide +kernel
theorem d_PM_open_60 : decode prog_1_method_12_code 60 = .ok (.getfield 168, 3) := by decide +kernel
theorem d_PM_open_63 : decode prog_1_method_12_code 63 = .ok (.i2l, 1) := by decide +kernel
theorem d_PM_open_64 : decode prog_1_method_12_code 64 = .ok (.lreturn, 1) := by decide +kernel
theorem d_PM_open_65 : decode prog_1_method_12_code 65 = .ok (.aload_n 0, 1) := by decide +kernel
theorem d_PM_open_66 : decode prog_1_method_12_code 66 = .ok (.getfield 36, 3) := by decide +kernel
theorem d_PM_open_69 : decode prog_1_method_12_code 69 = .ok (.getfield 169, 3) := by decide +kernel
theorem d_PM_open_72 : decode prog_1_method_12_code 72 = .ok (.getfield 149, 3) := by decide +kernel
theorem d_PM_open_75 : decode prog_1_method_12_code 75 = .ok (.lreturn, 1) := by decide +kernel
theorem d_PM_open_76 : decode prog_1_method_12_code 76 = .ok (.aload_n 0, 1) := by decide +kernel
theorem d_PM_open_77 : decode prog_1_method_12_code 77 = .ok (.getfield 36, 3) := by decide +kernel
theorem d_PM_open_80 : decode prog_1_method_12_code 80 = .ok (.getfield 169, 3) := by decide +kernel
theorem d_PM_open_83 : decode prog_1_method_12_code 83 = .ok (.getfield 154, 3) := by decide +kernel
theorem d_PM_open_86 : decode prog_1_method_12_code 86 = .ok (.lreturn, 1) := by decide +kernel
theorem d_PM_open_87 : decode prog_1_method_12_code 87 = .ok (.aload_n 0, 1) := by decide +kernel
theorem d_PM_open_88 : decode prog_1_method_12_code 88 = .ok (.getfield 36, 3) := by decide +kernel
theorem d_PM_open_91 : decode prog_1_method_12_code 91 = .ok (.getfield 169, 3) := by decide +kernel
theorem d_PM_open_94 : decode prog_1_method_12_code 94 = .ok (.getfield 173, 3) := by decide +kernel
theorem d_PM_open_97 : decode prog_1_method_12_code 97 = .ok (.iload_n 1, 1) := by decide +kernel
theorem d_PM_open_98 : decode prog_1_method_12_code 98 = .ok (.iconst 3, 1) := by decide +kernel
theorem d_PM_open_99 : decode prog_1_method_12_code 99 = .ok (.isub, 1) := by decide +kernel
theorem d_PM_open_100 : decode prog_1_method_12_code 100 = .ok (.laload, 1) := by decide +kernel
theorem d_PM_open_101 : decode prog_1_method_12_code 101 = .ok (.lreturn, 1) := by decide +kernel
theorem d_PM_open_102 : decode prog_1_method_12_code 102 = .ok (.aload_n 0, 1) := by decide +kernel
theorem d_PM_open_103 : decode prog_1_method_12_code 103 = .ok (.getfield 36, 3) := by decide +kernel
theorem d_PM_open_106 : decode prog_1_method_12_code 106 = .ok (.getfield 177, 3) := by decide +kernel
theorem d_PM_open_109 : decode prog_1_method_12_code 109 = .ok (.i2l, 1) := by decide +kernel
theorem d_PM_open_110 : decode prog_1_method_12_code 110 = .ok (.lreturn, 1) := by decide +kernel
theorem d_PM_open_111 : decode prog_1_method_12_code 111 = .ok (.aload_n 0, 1) := by decide +kernel
theorem d_PM_open_112 : decode prog_1_method_12_code 112 = .ok (.getfield 36, 3) := by decide +kernel
theorem d_PM_open_115 : decode prog_1_method_12_code 115 = .ok (.getfield 178, 3) := by decide +kernel
theorem d_PM_open_118 : decode prog_1_method_12_code 118 = .ok (.i2l, 1) := by decide +kernel
theorem d_PM_open_119 : decode prog_1_method_12_code 119 = .ok (.lreturn, 1) := by decide +kernel
theorem d_PM_open_120 : decode prog_1_method_12_code 120 = .ok (.aload_n 0, 1) := by decide +kernel
theorem d_PM_open_121 : decode prog_1_method_12_code 121 = .ok (.getfield 36, 3) := by decide +kernel
theorem d_PM_open_124 : decode prog_1_method_12_code 124 = .ok (.getfield 169, 3) := by decide +kernel
theorem d_PM_open_127 : decode prog_1_method_12_code 127 = .ok (.getfield 181, 3) := by decide +kernel
theorem d_PM_open_130 : decode prog_1_method_12_code 130 = .ok (.lreturn, 1) := by decide +kernel
theorem d_PM_open_131 : decode prog_1_method_12_code 131 = .ok (.new 127, 3) := by decide +kernel
theorem d_PM_open_134 : decode prog_1_method_12_code 134 = .ok (.dup, 1) := by decide +kernel
theorem d_PM_open_135 : decode prog_1_method_12_code 135 = .ok (.ldc 184, 2) := by decide +kernel
theorem d_PM_open_137 : decode prog_1_method_12_code 137 = .ok (.invokespecial 131, 3) := by decide +kernel
theorem d_PM_open_140 : decode prog_1_method_12_code 140 = .ok (.athrow, 1) := by decide +kernel
def y_PM_isSize : MethodName := ⟨"PageMaker", "isSize", "(I)Z"⟩
def w_PM_isSize : List Cond := .code y_PM_isSize prog_1_method_13_code 1 (some .boolean) :: TB
theorem d_PM_isSize_0 : decode prog_1_method_13_code 0 = .ok (.iload_n 0, 1) := by decide +kernel
theorem d_PM_isSize_1 : decode prog_1_method_13_code 1 = .ok (.ldc 186, 2) := by decide +kernel
theorem d_PM_isSize_3 : decode prog_1_method_13_code 3 = .ok (.if_icmp .lt 13, 3) := by decide +kernel
theorem d_PM_isSize_6 : decode prog_1_method_13_code 6 = .ok (.iload_n 0, 1) := by decide +kernel
theorem d_PM_isSize_7 : decode prog_1_method_13_code 7 = .ok (.ldc 187, 2) := by decide +kernel
theorem d_PM_isSize_9 : decode prog_1_method_13_code 9 = .ok (.if_icmp .gt 7, 3) := by decide +kernel
theorem d_PM_isSize_12 : decode prog_1_method_13_code 12 = .ok (.iconst 1, 1) := by decide +kernel
theorem d_PM_isSize_13 : decode prog_1_method_13_code 13 = .ok (.goto 4, 3) := by decide +kernel
theorem d_PM_isSize_16 : decode prog_1_method_13_code 16 = .ok (.iconst 0, 1) := by decide +kernel
theorem d_PM_isSize_17 : decode prog_1_method_13_code 17 = .ok (.ireturn, 1) := by decide +kernel
def y_PM_isSizeFromZero : MethodName := ⟨"PageMaker", "isSizeFromZero", "(I)Z"⟩
def w_PM_isSizeFromZero : List Cond := .code y_PM_isSizeFromZero prog_1_method_14_code 1 (some .boolean) :: TB
theorem d_PM_isSizeFromZero_0 : decode prog_1_method_14_code 0 = .ok (.iload_n 0, 1) := by decide +kernel
theorem d_PM_isSizeFromZero_1 : decode prog_1_method_14_code 1 = .ok (.ifCond .lt 13, 3) := by decide +kernel
theorem d_PM_isSizeFromZero_4 : decode prog_1_method_14_code 4 = .ok (.iload_n 0, 1) := by decide +kernel
theorem d_PM_isSizeFromZero_5 : decode prog_1_method_14_code 5 = .ok (.ldc 187, 2) := by decide +kernel
theorem d_PM_isSizeFromZero_7 : decode prog_1_method_14_code 7 = .ok (.if_icmp .gt 7, 3) := by decide +kernel
theorem d_PM_isSizeFromZero_10 : decode prog_1_method_14_code 10 = .ok (.iconst 1, 1) := by decide +kernel
theorem d_PM_isSizeFromZero_11 : decode prog_1_method_14_code 11 = .ok (.goto 4, 3) := by decide +kernel
theorem d_PM_isSizeFromZero_14 : decode prog_1_method_14_code 14 = .ok (.iconst 0, 1) := by decide +kernel
theorem d_PM_isSizeFromZero_15 : decode prog_1_method_14_code 15 = .ok (.ireturn, 1) := by decide +kernel
def y_PM_needRoom : MethodName := ⟨"PageMaker", "needRoom", "()V"⟩
def w_PM_needRoom : List Cond := .code y_PM_needRoom prog_1_method_15_code 1 none :: TB
theorem d_PM_needRoom_0 : decode prog_1_method_15_code 0 = .ok (.aload_n 0, 1) := by decide +kernel
theorem d_PM_needRoom_1 : decode prog_1_method_15_code 1 = .ok (.getfield 12, 3) := by decide +kernel
theorem d_PM_needRoom_4 : decode prog_1_method_15_code 4 = .ok (.invokevirtual 91, 3) := by decide +kernel
theorem d_PM_needRoom_7 : decode prog_1_method_15_code 7 = .ok (.sipush 2000, 3) := by decide +kernel
theorem d_PM_needRoom_10 : decode prog_1_method_15_code 10 = .ok (.if_icmp .lt 13, 3) := by decide +kernel
theorem d_PM_needRoom_13 : decode prog_1_method_15_code 13 = .ok (.new 188, 3) := by decide +kernel
theorem d_PM_needRoom_16 : decode prog_1_method_15_code 16 = .ok (.dup, 1) := by decide +kernel
theorem d_PM_needRoom_17 : decode prog_1_method_15_code 17 = .ok (.ldc 190, 2) := by decide +kernel
theorem d_PM_needRoom_19 : decode prog_1_method_15_code 19 = .ok (.invokespecial 192, 3) := by decide +kernel
theorem d_PM_needRoom_22 : decode prog_1_method_15_code 22 = .ok (.athrow, 1) := by decide +kernel
theorem d_PM_needRoom_23 : decode prog_1_method_15_code 23 = .ok (.return_, 1) := by decide +kernel
def y_PM_endedPage : MethodName := ⟨"PageMaker", "endedPage", "(I)LPageMaker$EndedPage;"⟩
def w_PM_endedPage : List Cond := .code y_PM_endedPage prog_1_method_16_code 2 (some (.object "PageMaker$EndedPage")) :: TB
theorem d_PM_endedPage_0 : decode prog_1_method_16_code 0 = .ok (.iload_n 1, 1) := by decide +kernel
theorem d_PM_endedPage_1 : decode prog_1_method_16_code 1 = .ok (.ifCond .lt 14, 3) := by decide +kernel
theorem d_PM_endedPage_4 : decode prog_1_method_16_code 4 = .ok (.iload_n 1, 1) := by decide +kernel
theorem d_PM_endedPage_5 : decode prog_1_method_16_code 5 = .ok (.aload_n 0, 1) := by decide +kernel
theorem d_PM_endedPage_6 : decode prog_1_method_16_code 6 = .ok (.getfield 16, 3) := by decide +kernel
theorem d_PM_endedPage_9 : decode prog_1_method_16_code 9 = .ok (.invokevirtual 91, 3) := by decide +kernel
theorem d_PM_endedPage_12 : decode prog_1_method_16_code 12 = .ok (.if_icmp .lt 13, 3) := by decide +kernel
theorem d_PM_endedPage_15 : decode prog_1_method_16_code 15 = .ok (.new 127, 3) := by decide +kernel
theorem d_PM_endedPage_18 : decode prog_1_method_16_code 18 = .ok (.dup, 1) := by decide +kernel
theorem d_PM_endedPage_19 : decode prog_1_method_16_code 19 = .ok (.ldc 193, 2) := by decide +kernel
theorem d_PM_endedPage_21 : decode prog_1_method_16_code 21 = .ok (.invokespecial 131, 3) := by decide +kernel
theorem d_PM_endedPage_24 : decode prog_1_method_16_code 24 = .ok (.athrow, 1) := by decide +kernel
theorem d_PM_endedPage_25 : decode prog_1_method_16_code 25 = .ok (.aload_n 0, 1) := by decide +kernel
theorem d_PM_endedPage_26 : decode prog_1_method_16_code 26 = .ok (.getfield 16, 3) := by decide +kernel
theorem d_PM_endedPage_29 : decode prog_1_method_16_code 29 = .ok (.iload_n 1, 1) := by decide +kernel
theorem d_PM_endedPage_30 : decode prog_1_method_16_code 30 = .ok (.invokevirtual 138, 3) := by decide +kernel
theorem d_PM_endedPage_33 : decode prog_1_method_16_code 33 = .ok (.checkcast 100, 3) := by decide +kernel
theorem d_PM_endedPage_36 : decode prog_1_method_16_code 36 = .ok (.areturn, 1) := by decide +kernel
def y_PM_isItem : MethodName := ⟨"PageMaker", "isItem", "(I)Z"⟩
def w_PM_isItem : List Cond := .code y_PM_isItem prog_1_method_17_code 2 (some .boolean) :: TB
theorem d_PM_isItem_0 : decode prog_1_method_17_code 0 = .ok (.iload_n 1, 1) := by decide +kernel
theorem d_PM_isItem_1 : decode prog_1_method_17_code 1 = .ok (.ifCond .lt 18, 3) := by decide +kernel
theorem d_PM_isItem_4 : decode prog_1_method_17_code 4 = .ok (.iload_n 1, 1) := by decide +kernel
theorem d_PM_isItem_5 : decode prog_1_method_17_code 5 = .ok (.aload_n 0, 1) := by decide +kernel
theorem d_PM_isItem_6 : decode prog_1_method_17_code 6 = .ok (.getfield 12, 3) := by decide +kernel
theorem d_PM_isItem_9 : decode prog_1_method_17_code 9 = .ok (.invokevirtual 91, 3) := by decide +kernel
theorem d_PM_isItem_12 : decode prog_1_method_17_code 12 = .ok (.if_icmp .ge 7, 3) := by decide +kernel
theorem d_PM_isItem_15 : decode prog_1_method_17_code 15 = .ok (.iconst 1, 1) := by decide +kernel
theorem d_PM_isItem_16 : decode prog_1_method_17_code 16 = .ok (.goto 4, 3) := by decide +kernel
theorem d_PM_isItem_19 : decode prog_1_method_17_code 19 = .ok (.iconst 0, 1) := by decide +kernel
theorem d_PM_isItem_20 : decode prog_1_method_17_code 20 = .ok (.ireturn, 1) := by decide +kernel
def y_PM_comeIn : MethodName := ⟨"PageMaker", "comeIn", "(LPageMaker$Item;)I"⟩
def w_PM_comeIn : List Cond := .code y_PM_comeIn prog_1_method_18_code 2 (some .int) :: TB
theorem d_PM_comeIn_0 : decode prog_1_method_18_code 0 = .ok (.aload_n 0, 1) := by decide +kernel
theorem d_PM_comeIn_1 : decode prog_1_method_18_code 1 = .ok (.getfield 12, 3) := by decide +kernel
theorem d_PM_comeIn_4 : decode prog_1_method_18_code 4 = .ok (.aload_n 1, 1) := by decide +kernel
theorem d_PM_comeIn_5 : decode prog_1_method_18_code 5 = .ok (.invokevirtual 195, 3) := by decide +kernel
theorem d_PM_comeIn_8 : decode prog_1_method_18_code 8 = .ok (.pop, 1) := by decide +kernel
theorem d_PM_comeIn_9 : decode prog_1_method_18_code 9 = .ok (.aload_n 0, 1) := by decide +kernel
theorem d_PM_comeIn_10 : decode prog_1_method_18_code 10 = .ok (.aload_n 0, 1) := by decide +kernel
theorem d_PM_comeIn_11 : decode prog_1_method_18_code 11 = .ok (.getfield 12, 3) := by decide +kernel
theorem d_PM_comeIn_14 : decode prog_1_method_18_code 14 = .ok (.invokevirtual 91, 3) := by decide +kernel
theorem d_PM_comeIn_17 : decode prog_1_method_18_code 17 = .ok (.iconst 1, 1) := by decide +kernel
theorem d_PM_comeIn_18 : decode prog_1_method_18_code 18 = .ok (.isub, 1) := by decide +kernel
theorem d_PM_comeIn_19 : decode prog_1_method_18_code 19 = .ok (.invokevirtual 199, 3) := by decide +kernel
theorem d_PM_comeIn_22 : decode prog_1_method_18_code 22 = .ok (.aload_n 0, 1) := by decide +kernel
theorem d_PM_comeIn_23 : decode prog_1_method_18_code 23 = .ok (.getfield 16, 3) := by decide +kernel
theorem d_PM_comeIn_26 : decode prog_1_method_18_code 26 = .ok (.invokevirtual 91, 3) := by decide +kernel
theorem d_PM_comeIn_29 : decode prog_1_method_18_code 29 = .ok (.ireturn, 1) := by decide +kernel
def y_PM_lookFrom : MethodName := ⟨"PageMaker", "lookFrom", "(I)V"⟩
def w_PM_lookFrom : List Cond := .code y_PM_lookFrom prog_1_method_19_code 5 none :: TB
theorem d_PM_lookFrom_0 : decode prog_1_method_19_code 0 = .ok (.iload_n 1, 1) := by decide +kernel
theorem d_PM_lookFrom_1 : decode prog_1_method_19_code 1 = .ok (.istore_n 2, 1) := by decide +kernel
theorem d_PM_lookFrom_2 : decode prog_1_method_19_code 2 = .ok (.iconst 0, 1) := by decide +kernel
theorem d_PM_lookFrom_3 : decode prog_1_method_19_code 3 = .ok (.istore_n 3, 1) := by decide +kernel
theorem d_PM_lookFrom_4 : decode prog_1_method_19_code 4 = .ok (.iload_n 3, 1) := by decide +kernel
theorem d_PM_lookFrom_5 : decode prog_1_method_19_code 5 = .ok (.ldc 202, 2) := by decide +kernel
theorem d_PM_lookFrom_7 : decode prog_1_method_19_code 7 = .ok (.if_icmp .ge 58, 3) := by decide +kernel
theorem d_PM_lookFrom_10 : decode prog_1_method_19_code 10 = .ok (.aload_n 0, 1) := by decide +kernel
theorem d_PM_lookFrom_11 : decode prog_1_method_19_code 11 = .ok (.iload_n 2, 1) := by decide +kernel
theorem d_PM_lookFrom_12 : decode prog_1_method_19_code 12 = .ok (.invokevirtual 132, 3) := by decide +kernel
theorem d_PM_lookFrom_15 : decode prog_1_method_19_code 15 = .ok (.ifCond .eq 50, 3) := by decide +kernel
theorem d_PM_lookFrom_18 : decode prog_1_method_19_code 18 = .ok (.aload_n 0, 1) := by decide +kernel
theorem d_PM_lookFrom_19 : decode prog_1_method_19_code 19 = .ok (.getfield 12, 3) := by decide +kernel
theorem d_PM_lookFrom_22 : decode prog_1_method_19_code 22 = .ok (.iload_n 2, 1) := by decide +kernel
theorem d_PM_lookFrom_23 : decode prog_1_method_19_code 23 = .ok (.invokevirtual 138, 3) := by decide +kernel
theorem d_PM_lookFrom_26 : decode prog_1_method_19_code 26 = .ok (.checkcast 203, 3) := by decide +kernel
theorem d_PM_lookFrom_29 : decode prog_1_method_19_code 29 = .ok (.astore 4, 2) := by decide +kernel
theorem d_PM_lookFrom_31 : decode prog_1_method_19_code 31 = .ok (.aload_n 0, 1) := by decide +kernel
theorem d_PM_lookFrom_32 : decode prog_1_method_19_code 32 = .ok (.iload_n 2, 1) := by decide +kernel
theorem d_PM_lookFrom_33 : decode prog_1_method_19_code 33 = .ok (.aload 4, 2) := by decide +kernel
theorem d_PM_lookFrom_35 : decode prog_1_method_19_code 35 = .ok (.invokevirtual 205, 3) := by decide +kernel
theorem d_PM_lookFrom_38 : decode prog_1_method_19_code 38 = .ok (.ifCond .eq 11, 3) := by decide +kernel
theorem d_PM_lookFrom_41 : decode prog_1_method_19_code 41 = .ok (.aload_n 0, 1) := by decide +kernel
theorem d_PM_lookFrom_42 : decode prog_1_method_19_code 42 = .ok (.invokevirtual 209, 3) := by decide +kernel
theorem d_PM_lookFrom_45 : decode prog_1_method_19_code 45 = .ok (.istore_n 2, 1) := by decide +kernel
theorem d_PM_lookFrom_46 : decode prog_1_method_19_code 46 = .ok (.goto 13, 3) := by decide +kernel
theorem d_PM_lookFrom_49 : decode prog_1_method_19_code 49 = .ok (.aload_n 0, 1) := by decide +kernel
theorem d_PM_lookFrom_50 : decode prog_1_method_19_code 50 = .ok (.iload_n 2, 1) := by decide +kernel
theorem d_PM_lookFrom_51 : decode prog_1_method_19_code 51 = .ok (.aload 4, 2) := by decide +kernel
theorem d_PM_lookFrom_53 : decode prog_1_method_19_code 53 = .ok (.invokevirtual 212, 3) := by decide +kernel
theorem d_PM_lookFrom_56 : decode prog_1_method_19_code 56 = .ok (.iinc 2 1, 3) := by decide +kernel
theorem d_PM_lookFrom_59 : decode prog_1_method_19_code 59 = .ok (.iinc 3 1, 3) := by decide +kernel
theorem d_PM_lookFrom_62 : decode prog_1_method_19_code 62 = .ok (.goto (-58), 3) := by decide +kernel
theorem d_PM_lookFrom_65 : decode prog_1_method_19_code 65 = .ok (.return_, 1) := by decide +kernel
def y_PM_breakEndsPage : MethodName := ⟨"PageMaker", "breakEndsPage", "(ILPageMaker$Item;)Z"⟩
def w_PM_breakEndsPage : List Cond := .code y_PM_breakEndsPage prog_1_method_20_code 4 (some .boolean) :: TB
theorem d_PM_breakEndsPage_0 : decode prog_1_method_20_code 0 = .ok (.aload_n 0, 1) := by decide +kernel
theorem d_PM_breakEndsPage_1 : decode prog_1_method_20_code 1 = .ok (.getfield 36, 3) := by decide +kernel
theorem d_PM_breakEndsPage_4 : decode prog_1_method_20_code 4 = .ok (.invokevirtual 216, 3) := by decide +kernel
theorem d_PM_breakEndsPage_7 : decode prog_1_method_20_code 7 = .ok (.ifCond .eq 13, 3) := by decide +kernel
theorem d_PM_breakEndsPage_10 : decode prog_1_method_20_code 10 = .ok (.aload_n 0, 1) := by decide +kernel
theorem d_PM_breakEndsPage_11 : decode prog_1_method_20_code 11 = .ok (.iload_n 1, 1) := by decide +kernel
theorem d_PM_breakEndsPage_12 : decode prog_1_method_20_code 12 = .ok (.iconst 1, 1) := by decide +kernel
theorem d_PM_breakEndsPage_13 : decode prog_1_method_20_code 13 = .ok (.isub, 1) := by decide +kernel
theorem d_PM_breakEndsPage_14 : decode prog_1_method_20_code 14 = .ok (.invokevirtual 132, 3) := by decide +kernel
theorem d_PM_breakEndsPage_17 : decode prog_1_method_20_code 17 = .ok (.ifCond .ne 5, 3) := by decide +kernel
theorem d_PM_breakEndsPage_20 : decode prog_1_method_20_code 20 = .ok (.iconst 0, 1) := by decide +kernel
theorem d_PM_breakEndsPage_21 : decode prog_1_method_20_code 21 = .ok (.ireturn, 1) := by decide +kernel
theorem d_PM_breakEndsPage_22 : decode prog_1_method_20_code 22 = .ok (.aload_n 2, 1) := by decide +kernel
theorem d_PM_breakEndsPage_23 : decode prog_1_method_20_code 23 = .ok (.instanceof 88, 3) := by decide +kernel
theorem d_PM_breakEndsPage_26 : decode prog_1_method_20_code 26 = .ok (.ifCond .eq 49, 3) := by decide +kernel
theorem d_PM_breakEndsPage_29 : decode prog_1_method_20_code 29 = .ok (.aload_n 2, 1) := by decide +kernel
theorem d_PM_breakEndsPage_30 : decode prog_1_method_20_code 30 = .ok (.checkcast 88, 3) := by decide +kernel
theorem d_PM_breakEndsPage_33 : decode prog_1_method_20_code 33 = .ok (.astore_n 3, 1) := by decide +kernel
theorem d_PM_breakEndsPage_34 : decode prog_1_method_20_code 34 = .ok (.aload_n 3, 1) := by decide +kernel
theorem d_PM_breakEndsPage_35 : decode prog_1_method_20_code 35 = .ok (.getfield 220, 3) := by decide +kernel
theorem d_PM_breakEndsPage_38 : decode prog_1_method_20_code 38 = .ok (.sipush 10000, 3) := by decide +kernel
theorem d_PM_breakEndsPage_41 : decode prog_1_method_20_code 41 = .ok (.if_icmp .ge 32, 3) := by decide +kernel
theorem d_PM_breakEndsPage_44 : decode prog_1_method_20_code 44 = .ok (.aload_n 0, 1) := by decide +kernel
theorem d_PM_breakEndsPage_45 : decode prog_1_method_20_code 45 = .ok (.getfield 36, 3) := by decide +kernel
theorem d_PM_breakEndsPage_48 : decode prog_1_method_20_code 48 = .ok (.iload_n 1, 1) := by decide +kernel
theorem d_PM_breakEndsPage_49 : decode prog_1_method_20_code 49 = .ok (.aload_n 0, 1) := by decide +kernel
theorem d_PM_breakEndsPage_50 : decode prog_1_method_20_code 50 = .ok (.getfield 36, 3) := by decide +kernel
theorem d_PM_breakEndsPage_53 : decode prog_1_method_20_code 53 = .ok (.getfield 169, 3) := by decide +kernel
theorem d_PM_breakEndsPage_56 : decode prog_1_method_20_code 56 = .ok (.getfield 149, 3) := by decide +kernel
theorem d_PM_breakEndsPage_59 : decode prog_1_method_20_code 59 = .ok (.aload_n 3, 1) := by decide +kernel
theorem d_PM_breakEndsPage_60 : decode prog_1_method_20_code 60 = .ok (.getfield 220, 3) := by decide +kernel
theorem d_PM_breakEndsPage_63 : decode prog_1_method_20_code 63 = .ok (.invokevirtual 223, 3) := by decide +kernel
theorem d_PM_breakEndsPage_66 : decode prog_1_method_20_code 66 = .ok (.ifCond .eq 7, 3) := by decide +kernel
theorem d_PM_breakEndsPage_69 : decode prog_1_method_20_code 69 = .ok (.iconst 1, 1) := by decide +kernel
theorem d_PM_breakEndsPage_70 : decode prog_1_method_20_code 70 = .ok (.goto 4, 3) := by decide +kernel
theorem d_PM_breakEndsPage_73 : decode prog_1_method_20_code 73 = .ok (.iconst 0, 1) := by decide +kernel
theorem d_PM_breakEndsPage_74 : decode prog_1_method_20_code 74 = .ok (.ireturn, 1) := by decide +kernel
theorem d_PM_breakEndsPage_75 : decode prog_1_method_20_code 75 = .ok (.aload_n 2, 1) := by decide +kernel
theorem d_PM_breakEndsPage_76 : decode prog_1_method_20_code 76 = .ok (.instanceof 72, 3) := by decide +kernel
theorem d_PM_breakEndsPage_79 : decode prog_1_method_20_code 79 = .ok (.ifCond .ne 5, 3) := by decide +kernel
theorem d_PM_breakEndsPage_82 : decode prog_1_method_20_code 82 = .ok (.iconst 0, 1) := by decide +kernel
theorem d_PM_breakEndsPage_83 : decode prog_1_method_20_code 83 = .ok (.ireturn, 1) := by decide +kernel
theorem d_PM_breakEndsPage_84 : decode prog_1_method_20_code 84 = .ok (.aload_n 0, 1) := by decide +kernel
theorem d_PM_breakEndsPage_85 : decode prog_1_method_20_code 85 = .ok (.getfield 12, 3) := by decide +kernel
theorem d_PM_breakEndsPage_88 : decode prog_1_method_20_code 88 = .ok (.iload_n 1, 1) := by decide +kernel
theorem d_PM_breakEndsPage_89 : decode prog_1_method_20_code 89 = .ok (.iconst 1, 1) := by decide +kernel
theorem d_PM_breakEndsPage_90 : decode prog_1_method_20_code 90 = .ok (.isub, 1) := by decide +kernel
theorem d_PM_breakEndsPage_91 : decode prog_1_method_20_code 91 = .ok (.invokevirtual 138, 3) := by decide +kernel
theorem d_PM_breakEndsPage_94 : decode prog_1_method_20_code 94 = .ok (.checkcast 203, 3) := by decide +kernel
theorem d_PM_breakEndsPage_97 : decode prog_1_method_20_code 97 = .ok (.astore_n 3, 1) := by decide +kernel
theorem d_PM_breakEndsPage_98 : decode prog_1_method_20_code 98 = .ok (.aload_n 3, 1) := by decide +kernel
theorem d_PM_breakEndsPage_99 : decode prog_1_method_20_code 99 = .ok (.instanceof 59, 3) := by decide +kernel
theorem d_PM_breakEndsPage_102 : decode prog_1_method_20_code 102 = .ok (.ifCond .eq 23, 3) := by decide +kernel
theorem d_PM_breakEndsPage_105 : decode prog_1_method_20_code 105 = .ok (.aload_n 0, 1) := by decide +kernel
theorem d_PM_breakEndsPage_106 : decode prog_1_method_20_code 106 = .ok (.getfield 36, 3) := by decide +kernel
theorem d_PM_breakEndsPage_109 : decode prog_1_method_20_code 109 = .ok (.iload_n 1, 1) := by decide +kernel
theorem d_PM_breakEndsPage_110 : decode prog_1_method_20_code 110 = .ok (.aload_n 0, 1) := by decide +kernel
theorem d_PM_breakEndsPage_111 : decode prog_1_method_20_code 111 = .ok (.getfield 36, 3) := by decide +kernel
theorem d_PM_breakEndsPage_114 : decode prog_1_method_20_code 114 = .ok (.getfield 169, 3) := by decide +kernel
theorem d_PM_breakEndsPage_117 : decode prog_1_method_20_code 117 = .ok (.getfield 149, 3) := by decide +kernel
theorem d_PM_breakEndsPage_120 : decode prog_1_method_20_code 120 = .ok (.iconst 0, 1) := by decide +kernel
theorem d_PM_breakEndsPage_121 : decode prog_1_method_20_code 121 = .ok (.invokevirtual 223, 3) := by decide +kernel
theorem d_PM_breakEndsPage_124 : decode prog_1_method_20_code 124 = .ok (.ireturn, 1) := by decide +kernel
theorem d_PM_breakEndsPage_125 : decode prog_1_method_20_code 125 = .ok (.aload_n 3, 1) := by decide +kernel
theorem d_PM_breakEndsPage_126 : decode prog_1_method_20_code 126 = .ok (.instanceof 79, 3) := by decide +kernel
theorem d_PM_breakEndsPage_129 : decode prog_1_method_20_code 129 = .ok (.ifCond .eq 28, 3) := by decide +kernel
theorem d_PM_breakEndsPage_132 : decode prog_1_method_20_code 132 = .ok (.aload_n 0, 1) := by decide +kernel
theorem d_PM_breakEndsPage_133 : decode prog_1_method_20_code 133 = .ok (.getfield 36, 3) := by decide +kernel
theorem d_PM_breakEndsPage_136 : decode prog_1_method_20_code 136 = .ok (.iload_n 1, 1) := by decide +kernel
theorem d_PM_breakEndsPage_137 : decode prog_1_method_20_code 137 = .ok (.iconst 1, 1) := by decide +kernel
theorem d_PM_breakEndsPage_138 : decode prog_1_method_20_code 138 = .ok (.isub, 1) := by decide +kernel
theorem d_PM_breakEndsPage_139 : decode prog_1_method_20_code 139 = .ok (.aload_n 0, 1) := by decide +kernel
theorem d_PM_breakEndsPage_140 : decode prog_1_method_20_code 140 = .ok (.getfield 36, 3) := by decide +kernel
theorem d_PM_breakEndsPage_143 : decode prog_1_method_20_code 143 = .ok (.getfield 227, 3) := by decide +kernel
theorem d_PM_breakEndsPage_146 : decode prog_1_method_20_code 146 = .ok (.iconst 0, 1) := by decide +kernel
theorem d_PM_breakEndsPage_147 : decode prog_1_method_20_code 147 = .ok (.invokevirtual 223, 3) := by decide +kernel
theorem d_PM_breakEndsPage_150 : decode prog_1_method_20_code 150 = .ok (.ifCond .eq 7, 3) := by decide +kernel
theorem d_PM_breakEndsPage_153 : decode prog_1_method_20_code 153 = .ok (.iconst 1, 1) := by decide +kernel
theorem d_PM_breakEndsPage_154 : decode prog_1_method_20_code 154 = .ok (.goto 4, 3) := by decide +kernel
theorem d_PM_breakEndsPage_157 : decode prog_1_method_20_code 157 = .ok (.iconst 0, 1) := by decide +kernel
theorem d_PM_breakEndsPage_158 : decode prog_1_method_20_code 158 = .ok (.ireturn, 1) := by decide +kernel
def y_PM_takeIn : MethodName := ⟨"PageMaker", "takeIn", "(ILPageMaker$Item;)V"⟩
def w_PM_takeIn : List Cond := .code y_PM_takeIn prog_1_method_21_code 4 none :: TB
theorem d_PM_takeIn_0 : decode prog_1_method_21_code 0 = .ok (.aload_n 0, 1) := by decide +kernel
theorem d_PM_takeIn_1 : decode prog_1_method_21_code 1 = .ok (.getfield 36, 3) := by decide +kernel
theorem d_PM_takeIn_4 : decode prog_1_method_21_code 4 = .ok (.invokevirtual 216, 3) := by decide +kernel
theorem d_PM_takeIn_7 : decode prog_1_method_21_code 7 = .ok (.ifCond .eq 14, 3) := by decide +kernel
theorem d_PM_takeIn_10 : decode prog_1_method_21_code 10 = .ok (.aload_n 0, 1) := by decide +kernel
theorem d_PM_takeIn_11 : decode prog_1_method_21_code 11 = .ok (.getfield 36, 3) := by decide +kernel
theorem d_PM_takeIn_14 : decode prog_1_method_21_code 14 = .ok (.aload_n 2, 1) := by decide +kernel
theorem d_PM_takeIn_15 : decode prog_1_method_21_code 15 = .ok (.invokevirtual 230, 3) := by decide +kernel
theorem d_PM_takeIn_18 : decode prog_1_method_21_code 18 = .ok (.goto 28, 3) := by decide +kernel
theorem d_PM_takeIn_21 : decode prog_1_method_21_code 21 = .ok (.aload_n 2, 1) := by decide +kernel
theorem d_PM_takeIn_22 : decode prog_1_method_21_code 22 = .ok (.instanceof 59, 3) := by decide +kernel
theorem d_PM_takeIn_25 : decode prog_1_method_21_code 25 = .ok (.ifCond .eq 21, 3) := by decide +kernel
theorem d_PM_takeIn_28 : decode prog_1_method_21_code 28 = .ok (.aload_n 2, 1) := by decide +kernel
theorem d_PM_takeIn_29 : decode prog_1_method_21_code 29 = .ok (.checkcast 59, 3) := by decide +kernel
theorem d_PM_takeIn_32 : decode prog_1_method_21_code 32 = .ok (.astore_n 3, 1) := by decide +kernel
theorem d_PM_takeIn_33 : decode prog_1_method_21_code 33 = .ok (.aload_n 0, 1) := by decide +kernel
theorem d_PM_takeIn_34 : decode prog_1_method_21_code 34 = .ok (.getfield 36, 3) := by decide +kernel
theorem d_PM_takeIn_37 : decode prog_1_method_21_code 37 = .ok (.iload_n 1, 1) := by decide +kernel
theorem d_PM_takeIn_38 : decode prog_1_method_21_code 38 = .ok (.aload_n 3, 1) := by decide +kernel
theorem d_PM_takeIn_39 : decode prog_1_method_21_code 39 = .ok (.aload_n 0, 1) := by decide +kernel
theorem d_PM_takeIn_40 : decode prog_1_method_21_code 40 = .ok (.getfield 27, 3) := by decide +kernel
theorem d_PM_takeIn_43 : decode prog_1_method_21_code 43 = .ok (.invokevirtual 233, 3) := by decide +kernel
theorem d_PM_takeIn_46 : decode prog_1_method_21_code 46 = .ok (.return_, 1) := by decide +kernel
def y_PM_endOpenPage : MethodName := ⟨"PageMaker", "endOpenPage", "()I"⟩
def w_PM_endOpenPage : List Cond := .code y_PM_endOpenPage prog_1_method_22_code 2 (some .int) :: TB
theorem d_PM_endOpenPage_0 : decode prog_1_method_22_code 0 = .ok (.aload_n 0, 1) := by decide +kernel
theorem d_PM_endOpenPage_1 : decode prog_1_method_22_code 1 = .ok (.getfield 36, 3) := by decide +kernel
theorem d_PM_endOpenPage_4 : decode prog_1_method_22_code 4 = .ok (.astore_n 1, 1) := by decide +kernel
theorem d_PM_endOpenPage_5 : decode prog_1_method_22_code 5 = .ok (.aload_n 0, 1) := by decide +kernel
theorem d_PM_endOpenPage_6 : decode prog_1_method_22_code 6 = .ok (.getfield 16, 3) := by decide +kernel
theorem d_PM_endOpenPage_9 : decode prog_1_method_22_code 9 = .ok (.new 100, 3) := by decide +kernel
theorem d_PM_endOpenPage_12 : decode prog_1_method_22_code 12 = .ok (.dup, 1) := by decide +kernel
theorem d_PM_endOpenPage_13 : decode prog_1_method_22_code 13 = .ok (.aload_n 1, 1) := by decide +kernel
theorem d_PM_endOpenPage_14 : decode prog_1_method_22_code 14 = .ok (.aload_n 0, 1) := by decide +kernel
theorem d_PM_endOpenPage_15 : decode prog_1_method_22_code 15 = .ok (.aload_n 1, 1) := by decide +kernel
theorem d_PM_endOpenPage_16 : decode prog_1_method_22_code 16 = .ok (.getfield 237, 3) := by decide +kernel
theorem d_PM_endOpenPage_19 : decode prog_1_method_22_code 19 = .ok (.aload_n 1, 1) := by decide +kernel
theorem d_PM_endOpenPage_20 : decode prog_1_method_22_code 20 = .ok (.getfield 168, 3) := by decide +kernel
theorem d_PM_endOpenPage_23 : decode prog_1_method_22_code 23 = .ok (.aload_n 1, 1) := by decide +kernel
theorem d_PM_endOpenPage_24 : decode prog_1_method_22_code 24 = .ok (.getfield 177, 3) := by decide +kernel
theorem d_PM_endOpenPage_27 : decode prog_1_method_22_code 27 = .ok (.invokevirtual 145, 3) := by decide +kernel
theorem d_PM_endOpenPage_30 : decode prog_1_method_22_code 30 = .ok (.invokespecial 238, 3) := by decide +kernel
theorem d_PM_endOpenPage_33 : decode prog_1_method_22_code 33 = .ok (.invokevirtual 195, 3) := by decide +kernel
theorem d_PM_endOpenPage_36 : decode prog_1_method_22_code 36 = .ok (.pop, 1) := by decide +kernel
theorem d_PM_endOpenPage_37 : decode prog_1_method_22_code 37 = .ok (.aload_n 0, 1) := by decide +kernel
theorem d_PM_endOpenPage_38 : decode prog_1_method_22_code 38 = .ok (.new 31, 3) := by decide +kernel
theorem d_PM_endOpenPage_41 : decode prog_1_method_22_code 41 = .ok (.dup, 1) := by decide +kernel
theorem d_PM_endOpenPage_42 : decode prog_1_method_22_code 42 = .ok (.aload_n 0, 1) := by decide +kernel
theorem d_PM_endOpenPage_43 : decode prog_1_method_22_code 43 = .ok (.getfield 27, 3) := by decide +kernel
theorem d_PM_endOpenPage_46 : decode prog_1_method_22_code 46 = .ok (.invokespecial 33, 3) := by decide +kernel
theorem d_PM_endOpenPage_49 : decode prog_1_method_22_code 49 = .ok (.putfield 36, 3) := by decide +kernel
theorem d_PM_endOpenPage_52 : decode prog_1_method_22_code 52 = .ok (.aload_n 1, 1) := by decide +kernel
theorem d_PM_endOpenPage_53 : decode prog_1_method_22_code 53 = .ok (.getfield 177, 3) := by decide +kernel
theorem d_PM_endOpenPage_56 : decode prog_1_method_22_code 56 = .ok (.ireturn, 1) := by decide +kernel
def y_PM_totalsOf : MethodName := ⟨"PageMaker", "totalsOf", "(LPageMaker$Frame;II)LPageMaker$Totals;"⟩
def w_PM_totalsOf : List Cond := .code y_PM_totalsOf prog_1_method_23_code 7 (some (.object "PageMaker$Totals")) :: TB
theorem d_PM_totalsOf_0 : decode prog_1_method_23_code 0 = .ok (.new 150, 3) := by decide +kernel
theorem d_PM_totalsOf_3 : decode prog_1_method_23_code 3 = .ok (.dup, 1) := by decide +kernel
theorem d_PM_totalsOf_4 : decode prog_1_method_23_code 4 = .ok (.invokespecial 241, 3) := by decide +kernel
theorem d_PM_totalsOf_7 : decode prog_1_method_23_code 7 = .ok (.astore 4, 2) := by decide +kernel
theorem d_PM_totalsOf_9 : decode prog_1_method_23_code 9 = .ok (.aload_n 0, 1) := by decide +kernel
theorem d_PM_totalsOf_10 : decode prog_1_method_23_code 10 = .ok (.iload_n 2, 1) := by decide +kernel
theorem d_PM_totalsOf_11 : decode prog_1_method_23_code 11 = .ok (.invokevirtual 132, 3) := by decide +kernel
theorem d_PM_totalsOf_14 : decode prog_1_method_23_code 14 = .ok (.ifCond .eq 36, 3) := by decide +kernel
theorem d_PM_totalsOf_17 : decode prog_1_method_23_code 17 = .ok (.aload_n 0, 1) := by decide +kernel
theorem d_PM_totalsOf_18 : decode prog_1_method_23_code 18 = .ok (.getfield 12, 3) := by decide +kernel
theorem d_PM_totalsOf_21 : decode prog_1_method_23_code 21 = .ok (.iload_n 2, 1) := by decide +kernel
theorem d_PM_totalsOf_22 : decode prog_1_method_23_code 22 = .ok (.invokevirtual 138, 3) := by decide +kernel
theorem d_PM_totalsOf_25 : decode prog_1_method_23_code 25 = .ok (.astore 6, 2) := by decide +kernel
theorem d_PM_totalsOf_27 : decode prog_1_method_23_code 27 = .ok (.aload 6, 2) := by decide +kernel
theorem d_PM_totalsOf_29 : decode prog_1_method_23_code 29 = .ok (.instanceof 59, 3) := by decide +kernel
theorem d_PM_totalsOf_32 : decode prog_1_method_23_code 32 = .ok (.ifCond .eq 18, 3) := by decide +kernel
theorem d_PM_totalsOf_35 : decode prog_1_method_23_code 35 = .ok (.aload 6, 2) := by decide +kernel
theorem d_PM_totalsOf_37 : decode prog_1_method_23_code 37 = .ok (.checkcast 59, 3) := by decide +kernel
theorem d_PM_totalsOf_40 : decode prog_1_method_23_code 40 = .ok (.astore 5, 2) := by decide +kernel
theorem d_PM_totalsOf_42 : decode prog_1_method_23_code 42 = .ok (.aload 4, 2) := by decide +kernel
theorem d_PM_totalsOf_44 : decode prog_1_method_23_code 44 = .ok (.aload_n 1, 1) := by decide +kernel
theorem d_PM_totalsOf_45 : decode prog_1_method_23_code 45 = .ok (.aload 5, 2) := by decide +kernel
theorem d_PM_totalsOf_47 : decode prog_1_method_23_code 47 = .ok (.invokevirtual 242, 3) := by decide +kernel
theorem d_PM_totalsOf_50 : decode prog_1_method_23_code 50 = .ok (.iload_n 2, 1) := by decide +kernel
theorem d_PM_totalsOf_51 : decode prog_1_method_23_code 51 = .ok (.istore 5, 2) := by decide +kernel
theorem d_PM_totalsOf_53 : decode prog_1_method_23_code 53 = .ok (.iload 5, 2) := by decide +kernel
theorem d_PM_totalsOf_55 : decode prog_1_method_23_code 55 = .ok (.iload_n 3, 1) := by decide +kernel
theorem d_PM_totalsOf_56 : decode prog_1_method_23_code 56 = .ok (.if_icmp .ge 36, 3) := by decide +kernel
theorem d_PM_totalsOf_59 : decode prog_1_method_23_code 59 = .ok (.aload_n 0, 1) := by decide +kernel
theorem d_PM_totalsOf_60 : decode prog_1_method_23_code 60 = .ok (.iload 5, 2) := by decide +kernel
theorem d_PM_totalsOf_62 : decode prog_1_method_23_code 62 = .ok (.invokevirtual 132, 3) := by decide +kernel
theorem d_PM_totalsOf_65 : decode prog_1_method_23_code 65 = .ok (.ifCond .eq 27, 3) := by decide +kernel
theorem d_PM_totalsOf_68 : decode prog_1_method_23_code 68 = .ok (.aload_n 0, 1) := by decide +kernel
theorem d_PM_totalsOf_69 : decode prog_1_method_23_code 69 = .ok (.getfield 12, 3) := by decide +kernel
theorem d_PM_totalsOf_72 : decode prog_1_method_23_code 72 = .ok (.iload 5, 2) := by decide +kernel
theorem d_PM_totalsOf_74 : decode prog_1_method_23_code 74 = .ok (.invokevirtual 138, 3) := by decide +kernel
theorem d_PM_totalsOf_77 : decode prog_1_method_23_code 77 = .ok (.checkcast 203, 3) := by decide +kernel
theorem d_PM_totalsOf_80 : decode prog_1_method_23_code 80 = .ok (.aload 4, 2) := by decide +kernel
theorem d_PM_totalsOf_82 : decode prog_1_method_23_code 82 = .ok (.aload_n 1, 1) := by decide +kernel
theorem d_PM_totalsOf_83 : decode prog_1_method_23_code 83 = .ok (.invokevirtual 246, 3) := by decide +kernel
theorem d_PM_totalsOf_86 : decode prog_1_method_23_code 86 = .ok (.iinc 5 1, 3) := by decide +kernel
theorem d_PM_totalsOf_89 : decode prog_1_method_23_code 89 = .ok (.goto (-36), 3) := by decide +kernel
theorem d_PM_totalsOf_92 : decode prog_1_method_23_code 92 = .ok (.aload 4, 2) := by decide +kernel
theorem d_PM_totalsOf_94 : decode prog_1_method_23_code 94 = .ok (.areturn, 1) := by decide +kernel
def y_PM_badnessOf : MethodName := ⟨"PageMaker", "badnessOf", "(JJ)I"⟩
def w_PM_badnessOf : List Cond := .code y_PM_badnessOf prog_1_method_24_code 6 (some .int) :: TB
theorem d_PM_badnessOf_0 : decode prog_1_method_24_code 0 = .ok (.lload_n 2, 1) := by decide +kernel
theorem d_PM_badnessOf_1 : decode prog_1_method_24_code 1 = .ok (.lconst 0, 1) := by decide +kernel
theorem d_PM_badnessOf_2 : decode prog_1_method_24_code 2 = .ok (.lcmp, 1) := by decide +kernel
theorem d_PM_badnessOf_3 : decode prog_1_method_24_code 3 = .ok (.ifCond .gt 7, 3) := by decide +kernel
theorem d_PM_badnessOf_6 : decode prog_1_method_24_code 6 = .ok (.sipush 10000, 3) := by decide +kernel
theorem d_PM_badnessOf_9 : decode prog_1_method_24_code 9 = .ok (.ireturn, 1) := by decide +kernel
theorem d_PM_badnessOf_10 : decode prog_1_method_24_code 10 = .ok (.lload_n 0, 1) := by decide +kernel
theorem d_PM_badnessOf_11 : decode prog_1_method_24_code 11 = .ok (.ldc2_w 250, 3) := by decide +kernel
theorem d_PM_badnessOf_14 : decode prog_1_method_24_code 14 = .ok (.lcmp, 1) := by decide +kernel
theorem d_PM_badnessOf_15 : decode prog_1_method_24_code 15 = .ok (.ifCond .gt 15, 3) := by decide +kernel
theorem d_PM_badnessOf_18 : decode prog_1_method_24_code 18 = .ok (.ldc2_w 252, 3) := by decide +kernel
theorem d_PM_badnessOf_21 : decode prog_1_method_24_code 21 = .ok (.lload_n 0, 1) := by decide +kernel
theorem d_PM_badnessOf_22 : decode prog_1_method_24_code 22 = .ok (.lmul, 1) := by decide +kernel
theorem d_PM_badnessOf_23 : decode prog_1_method_24_code 23 = .ok (.lload_n 2, 1) := by decide +kernel
theorem d_PM_badnessOf_24 : decode prog_1_method_24_code 24 = .ok (.ldiv, 1) := by decide +kernel
theorem d_PM_badnessOf_25 : decode prog_1_method_24_code 25 = .ok (.lstore 4, 2) := by decide +kernel
theorem d_PM_badnessOf_27 : decode prog_1_method_24_code 27 = .ok (.goto 26, 3) := by decide +kernel
theorem d_PM_badnessOf_30 : decode prog_1_method_24_code 30 = .ok (.lload_n 2, 1) := by decide +kernel
theorem d_PM_badnessOf_31 : decode prog_1_method_24_code 31 = .ok (.ldc2_w 254, 3) := by decide +kernel
theorem d_PM_badnessOf_34 : decode prog_1_method_24_code 34 = .ok (.lcmp, 1) := by decide +kernel
theorem d_PM_badnessOf_35 : decode prog_1_method_24_code 35 = .ok (.ifCond .lt 15, 3) := by decide +kernel
theorem d_PM_badnessOf_38 : decode prog_1_method_24_code 38 = .ok (.lload_n 0, 1) := by decide +kernel
theorem d_PM_badnessOf_39 : decode prog_1_method_24_code 39 = .ok (.lload_n 2, 1) := by decide +kernel
theorem d_PM_badnessOf_40 : decode prog_1_method_24_code 40 = .ok (.ldc2_w 252, 3) := by decide +kernel
theorem d_PM_badnessOf_43 : decode prog_1_method_24_code 43 = .ok (.ldiv, 1) := by decide +kernel
theorem d_PM_badnessOf_44 : decode prog_1_method_24_code 44 = .ok (.ldiv, 1) := by decide +kernel
theorem d_PM_badnessOf_45 : decode prog_1_method_24_code 45 = .ok (.lstore 4, 2) := by decide +kernel
theorem d_PM_badnessOf_47 : decode prog_1_method_24_code 47 = .ok (.goto 6, 3) := by decide +kernel
theorem d_PM_badnessOf_50 : decode prog_1_method_24_code 50 = .ok (.lload_n 0, 1) := by decide +kernel
theorem d_PM_badnessOf_51 : decode prog_1_method_24_code 51 = .ok (.lstore 4, 2) := by decide +kernel
theorem d_PM_badnessOf_53 : decode prog_1_method_24_code 53 = .ok (.lload 4, 2) := by decide +kernel
theorem d_PM_badnessOf_55 : decode prog_1_method_24_code 55 = .ok (.ldc2_w 256, 3) := by decide +kernel
theorem d_PM_badnessOf_58 : decode prog_1_method_24_code 58 = .ok (.lcmp, 1) := by decide +kernel
theorem d_PM_badnessOf_59 : decode prog_1_method_24_code 59 = .ok (.ifCond .le 9, 3) := by decide +kernel
theorem d_PM_badnessOf_62 : decode prog_1_method_24_code 62 = .ok (.sipush 10000, 3) := by decide +kernel
theorem d_PM_badnessOf_65 : decode prog_1_method_24_code 65 = .ok (.goto 20, 3) := by decide +kernel
theorem d_PM_badnessOf_68 : decode prog_1_method_24_code 68 = .ok (.lload 4, 2) := by decide +kernel
theorem d_PM_badnessOf_70 : decode prog_1_method_24_code 70 = .ok (.lload 4, 2) := by decide +kernel
theorem d_PM_badnessOf_72 : decode prog_1_method_24_code 72 = .ok (.lmul, 1) := by decide +kernel
theorem d_PM_badnessOf_73 : decode prog_1_method_24_code 73 = .ok (.lload 4, 2) := by decide +kernel
theorem d_PM_badnessOf_75 : decode prog_1_method_24_code 75 = .ok (.lmul, 1) := by decide +kernel
theorem d_PM_badnessOf_76 : decode prog_1_method_24_code 76 = .ok (.ldc2_w 258, 3) := by decide +kernel
theorem d_PM_badnessOf_79 : decode prog_1_method_24_code 79 = .ok (.ladd, 1) := by decide +kernel
theorem d_PM_badnessOf_80 : decode prog_1_method_24_code 80 = .ok (.ldc2_w 260, 3) := by decide +kernel
theorem d_PM_badnessOf_83 : decode prog_1_method_24_code 83 = .ok (.ldiv, 1) := by decide +kernel
theorem d_PM_badnessOf_84 : decode prog_1_method_24_code 84 = .ok (.l2i, 1) := by decide +kernel
theorem d_PM_badnessOf_85 : decode prog_1_method_24_code 85 = .ok (.ireturn, 1) := by decide +kernel
def y_PM_costOf : MethodName := ⟨"PageMaker", "costOf", "(II)I"⟩
def w_PM_costOf : List Cond := .code y_PM_costOf prog_1_method_25_code 2 (some .int) :: TB
theorem d_PM_costOf_0 : decode prog_1_method_25_code 0 = .ok (.iload_n 0, 1) := by decide +kernel
theorem d_PM_costOf_1 : decode prog_1_method_25_code 1 = .ok (.ldc 187, 2) := by decide +kernel
theorem d_PM_costOf_3 : decode prog_1_method_25_code 3 = .ok (.if_icmp .ne 6, 3) := by decide +kernel
theorem d_PM_costOf_6 : decode prog_1_method_25_code 6 = .ok (.ldc 187, 2) := by decide +kernel
theorem d_PM_costOf_8 : decode prog_1_method_25_code 8 = .ok (.ireturn, 1) := by decide +kernel
theorem d_PM_costOf_9 : decode prog_1_method_25_code 9 = .ok (.iload_n 1, 1) := by decide +kernel
theorem d_PM_costOf_10 : decode prog_1_method_25_code 10 = .ok (.sipush (-10000), 3) := by decide +kernel
theorem d_PM_costOf_13 : decode prog_1_method_25_code 13 = .ok (.if_icmp .gt 5, 3) := by decide +kernel
theorem d_PM_costOf_16 : decode prog_1_method_25_code 16 = .ok (.iload_n 1, 1) := by decide +kernel
theorem d_PM_costOf_17 : decode prog_1_method_25_code 17 = .ok (.ireturn, 1) := by decide +kernel
theorem d_PM_costOf_18 : decode prog_1_method_25_code 18 = .ok (.iload_n 0, 1) := by decide +kernel
theorem d_PM_costOf_19 : decode prog_1_method_25_code 19 = .ok (.sipush 10000, 3) := by decide +kernel
theorem d_PM_costOf_22 : decode prog_1_method_25_code 22 = .ok (.if_icmp .ge 9, 3) := by decide +kernel
theorem d_PM_costOf_25 : decode prog_1_method_25_code 25 = .ok (.iload_n 0, 1) := by decide +kernel
theorem d_PM_costOf_26 : decode prog_1_method_25_code 26 = .ok (.iload_n 1, 1) := by decide +kernel
theorem d_PM_costOf_27 : decode prog_1_method_25_code 27 = .ok (.iadd, 1) := by decide +kernel
theorem d_PM_costOf_28 : decode prog_1_method_25_code 28 = .ok (.goto 5, 3) := by decide +kernel
theorem d_PM_costOf_31 : decode prog_1_method_25_code 31 = .ok (.ldc 85, 2) := by decide +kernel
theorem d_PM_costOf_33 : decode prog_1_method_25_code 33 = .ok (.ireturn, 1) := by decide +kernel
def y_PM_proportion : MethodName := ⟨"PageMaker", "proportion", "(JJJ)J"⟩
def w_PM_proportion : List Cond := .code y_PM_proportion prog_1_method_26_code 13 (some .long) :: TB
theorem d_PM_proportion_0 : decode prog_1_method_26_code 0 = .ok (.lload 4, 2) := by decide +kernel
theorem d_PM_proportion_2 : decode prog_1_method_26_code 2 = .ok (.lconst 0, 1) := by decide +kernel
theorem d_PM_proportion_3 : decode prog_1_method_26_code 3 = .ok (.lcmp, 1) := by decide +kernel
theorem d_PM_proportion_4 : decode prog_1_method_26_code 4 = .ok (.ifCond .gt 5, 3) := by decide +kernel
theorem d_PM_proportion_7 : decode prog_1_method_26_code 7 = .ok (.lconst 0, 1) := by decide +kernel
theorem d_PM_proportion_8 : decode prog_1_method_26_code 8 = .ok (.lreturn, 1) := by decide +kernel
theorem d_PM_proportion_9 : decode prog_1_method_26_code 9 = .ok (.lconst 0, 1) := by decide +kernel
theorem d_PM_proportion_10 : decode prog_1_method_26_code 10 = .ok (.lstore 6, 2) := by decide +kernel
theorem d_PM_proportion_12 : decode prog_1_method_26_code 12 = .ok (.lconst 0, 1) := by decide +kernel
theorem d_PM_proportion_13 : decode prog_1_method_26_code 13 = .ok (.lstore 8, 2) := by decide +kernel
theorem d_PM_proportion_15 : decode prog_1_method_26_code 15 = .ok (.bipush 48, 2) := by decide +kernel
theorem d_PM_proportion_17 : decode prog_1_method_26_code 17 = .ok (.istore 10, 2) := by decide +kernel
theorem d_PM_proportion_19 : decode prog_1_method_26_code 19 = .ok (.iload 10, 2) := by decide +kernel
theorem d_PM_proportion_21 : decode prog_1_method_26_code 21 = .ok (.ifCond .lt 47, 3) := by decide +kernel
theorem d_PM_proportion_24 : decode prog_1_method_26_code 24 = .ok (.lload 8, 2) := by decide +kernel
theorem d_PM_proportion_26 : decode prog_1_method_26_code 26 = .ok (.bipush 16, 2) := by decide +kernel
theorem d_PM_proportion_28 : decode prog_1_method_26_code 28 = .ok (.lshl, 1) := by decide +kernel
theorem d_PM_proportion_29 : decode prog_1_method_26_code 29 = .ok (.lload_n 0, 1) := by decide +kernel
theorem d_PM_proportion_30 : decode prog_1_method_26_code 30 = .ok (.lload_n 2, 1) := by decide +kernel
theorem d_PM_proportion_31 : decode prog_1_method_26_code 31 = .ok (.iload 10, 2) := by decide +kernel
theorem d_PM_proportion_33 : decode prog_1_method_26_code 33 = .ok (.lushr, 1) := by decide +kernel
theorem d_PM_proportion_34 : decode prog_1_method_26_code 34 = .ok (.ldc2_w 262, 3) := by decide +kernel
theorem d_PM_proportion_37 : decode prog_1_method_26_code 37 = .ok (.land, 1) := by decide +kernel
theorem d_PM_proportion_38 : decode prog_1_method_26_code 38 = .ok (.lmul, 1) := by decide +kernel
theorem d_PM_proportion_39 : decode prog_1_method_26_code 39 = .ok (.ladd, 1) := by decide +kernel
theorem d_PM_proportion_40 : decode prog_1_method_26_code 40 = .ok (.lstore 11, 2) := by decide +kernel
theorem d_PM_proportion_42 : decode prog_1_method_26_code 42 = .ok (.lload 6, 2) := by decide +kernel
theorem d_PM_proportion_44 : decode prog_1_method_26_code 44 = .ok (.bipush 16, 2) := by decide +kernel
theorem d_PM_proportion_46 : decode prog_1_method_26_code 46 = .ok (.lshl, 1) := by decide +kernel
theorem d_PM_proportion_47 : decode prog_1_method_26_code 47 = .ok (.lload 11, 2) := by decide +kernel
theorem d_PM_proportion_49 : decode prog_1_method_26_code 49 = .ok (.lload 4, 2) := by decide +kernel
theorem d_PM_proportion_51 : decode prog_1_method_26_code 51 = .ok (.ldiv, 1) := by decide +kernel
theorem d_PM_proportion_52 : decode prog_1_method_26_code 52 = .ok (.ladd, 1) := by decide +kernel
theorem d_PM_proportion_53 : decode prog_1_method_26_code 53 = .ok (.lstore 6, 2) := by decide +kernel
theorem d_PM_proportion_55 : decode prog_1_method_26_code 55 = .ok (.lload 11, 2) := by decide +kernel
theorem d_PM_proportion_57 : decode prog_1_method_26_code 57 = .ok (.lload 4, 2) := by decide +kernel
theorem d_PM_proportion_59 : decode prog_1_method_26_code 59 = .ok (.lrem, 1) := by decide +kernel
theorem d_PM_proportion_60 : decode prog_1_method_26_code 60 = .ok (.lstore 8, 2) := by decide +kernel
theorem d_PM_proportion_62 : decode prog_1_method_26_code 62 = .ok (.iinc 10 (-16), 3) := by decide +kernel
theorem d_PM_proportion_65 : decode prog_1_method_26_code 65 = .ok (.goto (-46), 3) := by decide +kernel
theorem d_PM_proportion_68 : decode prog_1_method_26_code 68 = .ok (.ldc2_w 264, 3) := by decide +kernel
theorem d_PM_proportion_71 : decode prog_1_method_26_code 71 = .ok (.lload 8, 2) := by decide +kernel
theorem d_PM_proportion_73 : decode prog_1_method_26_code 73 = .ok (.lmul, 1) := by decide +kernel
theorem d_PM_proportion_74 : decode prog_1_method_26_code 74 = .ok (.lload 4, 2) := by decide +kernel
theorem d_PM_proportion_76 : decode prog_1_method_26_code 76 = .ok (.lcmp, 1) := by decide +kernel
theorem d_PM_proportion_77 : decode prog_1_method_26_code 77 = .ok (.ifCond .lt 10, 3) := by decide +kernel
theorem d_PM_proportion_80 : decode prog_1_method_26_code 80 = .ok (.lload 6, 2) := by decide +kernel
theorem d_PM_proportion_82 : decode prog_1_method_26_code 82 = .ok (.lconst 1, 1) := by decide +kernel
theorem d_PM_proportion_83 : decode prog_1_method_26_code 83 = .ok (.ladd, 1) := by decide +kernel
theorem d_PM_proportion_84 : decode prog_1_method_26_code 84 = .ok (.goto 5, 3) := by decide +kernel
theorem d_PM_proportion_87 : decode prog_1_method_26_code 87 = .ok (.lload 6, 2) := by decide +kernel
theorem d_PM_proportion_89 : decode prog_1_method_26_code 89 = .ok (.lreturn, 1) := by decide +kernel
end
section
/-! WHAT IS KNOWN OUTSIDE THE POOL (zz): words that the tables keep in their own way, classes that are not castable, the empty array of ArrayList, the statics of Throwable, the String constants. -/
def NBk : Cond → Bool
  | .castable _ _ => true
  | .declares _ => true
  | .methodLinkNest _ _ _ _ => true
  | _ => false
def NB : List Cond := lw_tbl.filter NBk
theorem nb_warm {w : Cond} (hk : NBk w = true) {s U : State} (hW : s.WarmedH U.vm) (h : va_Nw w s) : va_Nw w U := by
  cases w <;> first | exact va_Nw.warmC hW h | exact va_Nw.warmD hW h | exact va_Nw.warmM hW h | exact absurd (show false = true from hk) (by decide)
theorem nb_of {args : Array Value} {s : State} (hts : ∀ w ∈ lw_tbl, w.before args s = true) : ∀ w ∈ NB, va_Nw w s := fun w h => by
  have h2 := (List.mem_filter.mp h).2
  refine va_Nw.of ?_ (hts w (List.mem_filter.mp h).1)
  cases w <;> first | rfl | exact absurd (show false = true from h2) (by decide)
theorem nb_a1 {w : Cond} (i : Nat) (h : tables_1_1[i]? = some w) (g : NBk w = true) : w ∈ NB := List.mem_filter.mpr ⟨List.mem_append_right _ (List.mem_append_left _ (List.mem_of_getElem? h)), g⟩
theorem nb_a2 {w : Cond} (i : Nat) (h : tables_1_2[i]? = some w) (g : NBk w = true) : w ∈ NB := List.mem_filter.mpr ⟨List.mem_append_right _ (List.mem_append_right _ (List.mem_append_left _ (List.mem_of_getElem? h))), g⟩
theorem nb_a3 {w : Cond} (i : Nat) (h : tables_1_3[i]? = some w) (g : NBk w = true) : w ∈ NB := List.mem_filter.mpr ⟨List.mem_append_right _ (List.mem_append_right _ (List.mem_append_right _ (List.mem_append_left _ (List.mem_of_getElem? h)))), g⟩
theorem nb_a4 {w : Cond} (i : Nat) (h : tables_1_4[i]? = some w) (g : NBk w = true) : w ∈ NB := List.mem_filter.mpr ⟨List.mem_append_right _ (List.mem_append_right _ (List.mem_append_right _ (List.mem_append_right _ (List.mem_of_getElem? h)))), g⟩
theorem tn_92 : (Jvm.Cond.methodLinkNest "PageMaker$OpenPage" (11 : Nat) ({ cls := "PageMaker$Totals", name := "<init>", desc := "()V" } : Jvm.MethodName) "PageMaker") ∈ NB := nb_a1 92 rfl rfl
theorem tn_203 : (Jvm.Cond.castable "java/lang/IllegalArgumentException" "java/lang/IllegalArgumentException") ∈ NB := nb_a1 203 rfl rfl
theorem tn_204 : (Jvm.Cond.declares ({ cls := "java/lang/RuntimeException", name := "<init>", desc := "()V" } : Jvm.MethodName)) ∈ NB := nb_a1 204 rfl rfl
theorem tn_205 : (Jvm.Cond.declares ({ cls := "java/lang/RuntimeException", name := "<init>", desc := "(Ljava/lang/String;)V" } : Jvm.MethodName)) ∈ NB := nb_a1 205 rfl rfl
theorem tn_206 : (Jvm.Cond.declares ({ cls := "java/lang/Exception", name := "<init>", desc := "()V" } : Jvm.MethodName)) ∈ NB := nb_a1 206 rfl rfl
theorem tn_207 : (Jvm.Cond.declares ({ cls := "java/lang/Exception", name := "<init>", desc := "(Ljava/lang/String;)V" } : Jvm.MethodName)) ∈ NB := nb_a1 207 rfl rfl
theorem tn_208 : (Jvm.Cond.declares ({ cls := "java/lang/Throwable", name := "<init>", desc := "()V" } : Jvm.MethodName)) ∈ NB := nb_a1 208 rfl rfl
theorem tn_209 : (Jvm.Cond.declares ({ cls := "java/lang/Throwable", name := "<init>", desc := "(Ljava/lang/String;)V" } : Jvm.MethodName)) ∈ NB := nb_a1 209 rfl rfl
theorem tn_284 : (Jvm.Cond.castable "java/lang/UnsupportedOperationException" "java/lang/UnsupportedOperationException") ∈ NB := nb_a2 44 rfl rfl
theorem tn_303 : (Jvm.Cond.methodLinkNest "PageMaker$Box" (1 : Nat) ({ cls := "PageMaker$Item", name := "<init>", desc := "()V" } : Jvm.MethodName) "PageMaker") ∈ NB := nb_a2 63 rfl rfl
theorem tn_426 : (Jvm.Cond.methodLinkNest "PageMaker$Totals" (50 : Nat) ({ cls := "PageMaker", name := "badnessOf", desc := "(JJ)I" } : Jvm.MethodName) "PageMaker") ∈ NB := nb_a2 186 rfl rfl
theorem tn_436 : (Jvm.Cond.methodLinkNest "PageMaker$OpenPage" (69 : Nat) ({ cls := "PageMaker", name := "costOf", desc := "(II)I" } : Jvm.MethodName) "PageMaker") ∈ NB := nb_a2 196 rfl rfl
theorem tn_453 : (Jvm.Cond.methodLinkNest "PageMaker" (241 : Nat) ({ cls := "PageMaker$Totals", name := "<init>", desc := "()V" } : Jvm.MethodName) "PageMaker") ∈ NB := nb_a2 213 rfl rfl
theorem tn_466 : (Jvm.Cond.declares ({ cls := "PageMaker$Item", name := "addTo", desc := "(LPageMaker$Totals;LPageMaker$Frame;)V" } : Jvm.MethodName)) ∈ NB := nb_a2 226 rfl rfl
theorem tn_553 : (Jvm.Cond.methodLinkNest "PageMaker$Glue" (3 : Nat) ({ cls := "PageMaker$Item", name := "<init>", desc := "()V" } : Jvm.MethodName) "PageMaker") ∈ NB := nb_a3 73 rfl rfl
theorem tn_579 : (Jvm.Cond.methodLinkNest "PageMaker$Kern" (1 : Nat) ({ cls := "PageMaker$Item", name := "<init>", desc := "()V" } : Jvm.MethodName) "PageMaker") ∈ NB := nb_a3 99 rfl rfl
theorem tn_597 : (Jvm.Cond.methodLinkNest "PageMaker$Penalty" (1 : Nat) ({ cls := "PageMaker$Item", name := "<init>", desc := "()V" } : Jvm.MethodName) "PageMaker") ∈ NB := nb_a3 117 rfl rfl
theorem tn_617 : (Jvm.Cond.castable "java/lang/IndexOutOfBoundsException" "java/lang/IndexOutOfBoundsException") ∈ NB := nb_a3 137 rfl rfl
theorem tn_647 : (Jvm.Cond.methodLinkNest "PageMaker$EndedPage" (72 : Nat) ({ cls := "PageMaker", name := "proportion", desc := "(JJJ)J" } : Jvm.MethodName) "PageMaker") ∈ NB := nb_a3 167 rfl rfl
theorem tn_884 : (Jvm.Cond.castable "PageMaker$Box" "PageMaker$Item") ∈ NB := nb_a4 164 rfl rfl
theorem tn_885 : (Jvm.Cond.castable "PageMaker$Glue" "PageMaker$Item") ∈ NB := nb_a4 165 rfl rfl
theorem tn_886 : (Jvm.Cond.castable "PageMaker$Kern" "PageMaker$Item") ∈ NB := nb_a4 166 rfl rfl
theorem tn_887 : (Jvm.Cond.castable "PageMaker$Penalty" "PageMaker$Item") ∈ NB := nb_a4 167 rfl rfl
theorem tn_888 : (Jvm.Cond.castable "PageMaker$Penalty" "PageMaker$Penalty") ∈ NB := nb_a4 168 rfl rfl
theorem tn_889 : (Jvm.Cond.castable "PageMaker$Glue" "PageMaker$Glue") ∈ NB := nb_a4 169 rfl rfl
theorem tn_890 : (Jvm.Cond.castable "PageMaker$Box" "PageMaker$Box") ∈ NB := nb_a4 170 rfl rfl
theorem tn_891 : (Jvm.Cond.castable "PageMaker$Kern" "PageMaker$Kern") ∈ NB := nb_a4 171 rfl rfl
theorem tn_892 : (Jvm.Cond.castable "PageMaker$EndedPage" "PageMaker$EndedPage") ∈ NB := nb_a4 172 rfl rfl
theorem tn_895 : (Jvm.Cond.declares ({ cls := "java/lang/Object", name := "getClass", desc := "()Ljava/lang/Class;" } : Jvm.MethodName)) ∈ NB := nb_a4 175 rfl rfl
theorem tn_896 : (Jvm.Cond.castable "PageMaker" "java/lang/Object") ∈ NB := nb_a4 176 rfl rfl
theorem tn_897 : (Jvm.Cond.castable "PageMaker$Frame" "java/lang/Object") ∈ NB := nb_a4 177 rfl rfl
theorem tn_898 : (Jvm.Cond.castable "PageMaker$OpenPage" "java/lang/Object") ∈ NB := nb_a4 178 rfl rfl
theorem tn_899 : (Jvm.Cond.castable "PageMaker$Totals" "java/lang/Object") ∈ NB := nb_a4 179 rfl rfl
theorem tn_900 : (Jvm.Cond.castable "PageMakerModel" "java/lang/Object") ∈ NB := nb_a4 180 rfl rfl
theorem tn_901 : (Jvm.Cond.castable "PageMaker$Box" "java/lang/Object") ∈ NB := nb_a4 181 rfl rfl
theorem tn_902 : (Jvm.Cond.castable "PageMaker$EndedPage" "java/lang/Object") ∈ NB := nb_a4 182 rfl rfl
theorem tn_903 : (Jvm.Cond.castable "PageMaker$Glue" "java/lang/Object") ∈ NB := nb_a4 183 rfl rfl
theorem tn_904 : (Jvm.Cond.castable "PageMaker$Kern" "java/lang/Object") ∈ NB := nb_a4 184 rfl rfl
theorem tn_905 : (Jvm.Cond.castable "PageMaker$Penalty" "java/lang/Object") ∈ NB := nb_a4 185 rfl rfl
theorem tn_906 : (Jvm.Cond.castable "java/lang/String" "java/lang/Object") ∈ NB := nb_a4 186 rfl rfl
def NC : List (String × String) := [("java/lang/UnsupportedOperationException", "java/lang/IllegalArgumentException"), ("java/lang/IndexOutOfBoundsException", "java/lang/IllegalArgumentException"), ("java/lang/IllegalArgumentException", "java/lang/UnsupportedOperationException"), ("java/lang/IndexOutOfBoundsException", "java/lang/UnsupportedOperationException"), ("PageMaker$Box", "PageMaker$Penalty"), ("PageMaker$Glue", "PageMaker$Penalty"), ("PageMaker$Kern", "PageMaker$Penalty"), ("PageMaker$Box", "PageMaker$Glue"), ("PageMaker$Kern", "PageMaker$Glue"), ("PageMaker$Penalty", "PageMaker$Glue"), ("PageMaker$Glue", "PageMaker$Box"), ("PageMaker$Kern", "PageMaker$Box"), ("PageMaker$Penalty", "PageMaker$Box"), ("PageMaker$Box", "PageMaker$Kern"), ("PageMaker$Glue", "PageMaker$Kern"), ("PageMaker$Penalty", "PageMaker$Kern"), ("java/lang/IllegalArgumentException", "java/lang/IndexOutOfBoundsException"), ("java/lang/UnsupportedOperationException", "java/lang/IndexOutOfBoundsException")]
def NS : List (Nat × String) := [(49, "a frame needs sizes, its height and greatest depth not below 0"), (54, "a box needs a tag not below 0 and two sizes"), (190, "there are 2000 items"), (68, "glue needs sizes, its stretch and shrink not below 0"), (70, "the order of glue is 0 to 3"), (77, "a kern needs a size"), (86, "a penalty is -100000 to 100000"), (193, "no such page"), (129, "of a page 0 to 7 can be asked"), (164, "no box of this page"), (166, "no such item"), (184, "of the open page 0 to 9 can be asked")]
def zz (dE mi : Nat) (sa : Nat → Nat) : pz_Zt := fun A U H => (∀ w ∈ NB, va_Nw w U) ∧ (∀ q ∈ NC, va_Nc q.1 q.2 U) ∧ va_AO "java/lang/Object" U ∧ va_Mi "[Ljava/lang/Object;" mi U ∧ (∀ q ∈ NS, vk_R "PageMaker" q.1 q.2 (sa q.1) U) ∧ va_Z "java/util/ArrayList" "DEFAULTCAPACITY_EMPTY_ELEMENTDATA" "[Ljava/lang/Object;" (.ref dE) A U H ∧ va_T (.object "java/lang/Object") dE 0 (fun _ => .null) A U H ∧ vx_Zq Bundle.tN "UNASSIGNED_STACK" Bundle.steD A U H ∧ vx_Zq Bundle.tN "SUPPRESSED_SENTINEL" Bundle.listD A U H
theorem zz_ok (dE mi : Nat) (sa : Nat → Nat) : pz_Zok (zz dE mi sa) := by
  refine ⟨fun A u U H hW h => ?_, fun A U H H1 h hq => ?_, fun A B U H h hAB => ?_⟩
  · obtain ⟨h1, h2, h3, h4, h5, h6, h7, h8, h9⟩ := h
    exact ⟨fun w hw => nb_warm (List.mem_filter.mp hw).2 hW (h1 w hw), fun q hq => (h2 q hq).moved hW.alike, h3.moved hW.alike, h4.moved hW.alike, fun q hq => vk_R.warm hW (h5 q hq), h6.moved hW.alike, h7.moved hW.alike, h8.moved hW.alike, h9.moved hW.alike⟩
  · obtain ⟨h1, h2, h3, h4, h5, h6, h7, h8, h9⟩ := h
    exact ⟨h1, h2, h3, h4, h5, h6.kept hq, h7.kept hq, h8.kept hq, h9.kept hq⟩
  · obtain ⟨h1, h2, h3, h4, h5, h6, h7, h8, h9⟩ := h
    exact ⟨h1, h2, h3, h4, h5, h6.narrow hAB, h7.narrow hAB, h8.narrow hAB, h9.narrow hAB⟩

/-! contracts, short: G is (classes and slots, (int[], long[], Object[] as classes), (the empty array, the class object, the texts)) -/
abbrev gG : Type := va_G × (ClassId × ClassId × ClassId) × (Nat × Nat × (Nat → Nat))
abbrev gD (G : gG) : va_G := G.1
abbrev cI (G : gG) : ClassId := G.2.1.1
abbrev cJ (G : gG) : ClassId := G.2.1.2.1
abbrev cO (G : gG) : ClassId := G.2.1.2.2
abbrev gT (G : gG) : List (ClassId × FieldType) := [(cI G, .int), (cJ G, .long), (cO G, .object "java/lang/Object")]
abbrev gZ (G : gG) : pz_Zt := zz G.2.2.1 G.2.2.2.1 G.2.2.2.2
abbrev mP (G : gG) (L : List Nat) (f : Nat → va_E) (sz : Nat) (av : List Value) : Array Value → State → Prop := pz_Pc (gZ G) (gD G) cls9 (gT G) L f sz av
abbrev mA (L : List Nat) (f : Nat → va_E) (sz : Nat) : Nat → Prop := va_A (va_pl L f) sz
abbrev mV (l : Launch) (y : MethodName) (ws : List Cond) (rm : Room) (G : gG) (L : List Nat) (f : Nat → va_E) (sz : Nat) (av : List Value) (mc ms : Nat) (post : pz_U → Prop) : Prop := Met l y ws rm (mP G L f sz av) (va_Qv post (pz_B (gD G) cls9 (gT G) (mA L f sz)) (mA L f sz)) mc ms (mA L f sz)
abbrev mI (l : Launch) (y : MethodName) (ws : List Cond) (rm : Room) (G : gG) (L : List Nat) (f : Nat → va_E) (sz : Nat) (av : List Value) (mc ms : Nat) (post : Int32 → pz_U → Prop) : Prop := Met l y ws rm (mP G L f sz av) (va_Qi post (pz_B (gD G) cls9 (gT G) (mA L f sz)) (mA L f sz)) mc ms (mA L f sz)
abbrev mR (l : Launch) (y : MethodName) (ws : List Cond) (rm : Room) (G : gG) (L : List Nat) (f : Nat → va_E) (sz : Nat) (av : List Value) (mc ms : Nat) (post : Nat × pz_U → Prop) : Prop := Met l y ws rm (mP G L f sz av) (va_Qr post (pz_BR (gD G) cls9 (gT G) (mA L f sz)) (mA L f sz)) mc ms (mA L f sz)
abbrev sI (l : Launch) (y : MethodName) (ws : List Cond) (rm : Room) (G : gG) (L : List Nat) (f : Nat → va_E) (sz : Nat) (av : List Value) (post : Int32 → Prop) : Prop := Met l y ws rm (mP G L f sz av) (vp_Si post) 0 0 (fun _ => False)
abbrev sJ (l : Launch) (y : MethodName) (ws : List Cond) (rm : Room) (G : gG) (L : List Nat) (f : Nat → va_E) (sz : Nat) (av : List Value) (post : Int64 → Prop) : Prop := Met l y ws rm (mP G L f sz av) (vp_Sl post) 0 0 (fun _ => False)
abbrev sQ (l : Launch) (y : MethodName) (ws : List Cond) (rm : Room) (G : gG) (L : List Nat) (f : Nat → va_E) (sz : Nat) (av : List Value) (post : Option Nat → Prop) : Prop := Met l y ws rm (mP G L f sz av) (va_Sq post) 0 0 (fun _ => False)
abbrev pI (l : Launch) (y : MethodName) (ws : List Cond) (rm : Room) (av : List Value) (post : Int32 → Prop) : Prop := Met l y ws rm (fun v _ => v = av.toArray) (vp_Si post) 0 0 (fun _ => False)
abbrev pJ (l : Launch) (y : MethodName) (ws : List Cond) (rm : Room) (av : List Value) (post : Int64 → Prop) : Prop := Met l y ws rm (fun v _ => v = av.toArray) (vp_Sl post) 0 0 (fun _ => False)
/-! words of calls -/
theorem tb_good {c0 c2 : Cond} (h : c2 ∈ TB) : GoodIn (c0 :: TB) (c2 :: TB) := fun w hw => by
  rcases List.mem_cons.mp hw with rfl | hw
  · exact ⟨List.mem_cons_of_mem _ h, good_of_word (List.mem_filter.mp h).2⟩
  · exact ⟨List.mem_cons_of_mem _ hw, good_of_word (List.mem_filter.mp hw).2⟩
theorem tb_gs {c0 : Cond} {ws : List Cond} (h : ∀ w ∈ ws, w ∈ TB) : GoodIn (c0 :: TB) ws := fun w hw => ⟨List.mem_cons_of_mem _ (h w hw), good_of_word (List.mem_filter.mp (h w hw)).2⟩
theorem tb_V {c0 c2 : Cond} {own C : String} {idx : Nat} {y : MethodName} (h1 : .methodLink own idx y ∈ TB) (h2 : .instanceMethod y ∈ TB) (h3 : .selects C y y ∈ TB) (h4 : .initialized C ∈ TB) (h5 : c2 ∈ TB) : GoodIn (c0 :: TB) (wsV own idx C y (c2 :: TB)) := tb_gs (fun w h => by
  rcases List.mem_append.mp h with h | h
  · simp only [List.mem_cons, List.not_mem_nil, or_false] at h
    rcases h with rfl | rfl | rfl | rfl <;> assumption
  · rcases List.mem_cons.mp h with rfl | h <;> assumption)
theorem tb_S {c0 c2 : Cond} {own : String} {idx : Nat} {y : MethodName} (h1 : .methodLink own idx y ∈ TB) (h2 : .static y ∈ TB) (h4 : .initialized own ∈ TB) (h5 : c2 ∈ TB) : GoodIn (c0 :: TB) (wsS own idx y (c2 :: TB)) := tb_gs (fun w h => by
  rcases List.mem_append.mp h with h | h
  · simp only [List.mem_cons, List.not_mem_nil, or_false] at h
    rcases h with rfl | rfl | rfl <;> assumption
  · rcases List.mem_cons.mp h with rfl | h <;> assumption)
theorem tb_SS {c0 c2 : Cond} {own : String} {idx : Nat} {y : MethodName} (h1 : .methodLink own idx y ∈ TB) (h2 : .static y ∈ TB) (h4 : .initialized y.cls ∈ TB) (h5 : c2 ∈ TB) : GoodIn (c0 :: TB) (va_wsS own idx y (c2 :: TB)) := tb_gs (fun w h => by
  rcases List.mem_append.mp h with h | h
  · simp only [List.mem_cons, List.not_mem_nil, or_false] at h
    rcases h with rfl | rfl | rfl <;> assumption
  · rcases List.mem_cons.mp h with rfl | h <;> assumption)
end
section
/-! PURE PICTURES of the class's arithmetic, as its bytecode does it. -/
def k_bad (t s : Int64) : Int32 := if s ≤ 0 then 10000 else if 1290 < (if t ≤ 7230584 then 297 * t / s else if 1663497 ≤ s then t / (s / 297) else t) then 10000 else (((if t ≤ 7230584 then 297 * t / s else if 1663497 ≤ s then t / (s / 297) else t) * (if t ≤ 7230584 then 297 * t / s else if 1663497 ≤ s then t / (s / 297) else t) * (if t ≤ 7230584 then 297 * t / s else if 1663497 ≤ s then t / (s / 297) else t) + 131072) / 262144).toInt32
def k_cost (b p : Int32) : Int32 := if b = 1073741823 then 1073741823 else if p ≤ (-10000) then p else if b < 10000 then b + p else 100000
def k_go (g : Nat → Int64) : Int32 := if 0 < g 3 then 3 else if 0 < g 2 then 2 else if 0 < g 1 then 1 else 0
def k_boe (g : Nat → Int64) (shr e : Int64) : Int32 := if 0 < e then (if 0 < k_go g then 0 else k_bad e (g 0)) else if e = 0 then 0 else if shr < -e then 1073741823 else k_bad (-e) shr
/-- a digit of the amount at a shift, times the part, and the rest before it -/
def k_pd (part amount : Int64) (sh : Int32) (r : Int64) : Int64 := (r <<< ((16 : Int32).toInt64 &&& 63)) + part * ((amount.toUInt64 >>> (sh.toInt64.toUInt64 &&& Int64.toUInt64 63)).toInt64 &&& 65535)
def k_rem (d c : Int64) : Int64 := d - d / c * c
def k_prop (part amount total : Int64) : Int64 :=
  if total ≤ 0 then 0 else
    if total ≤ 2 * (k_rem (k_pd part amount 0 (k_rem (k_pd part amount 16 (k_rem (k_pd part amount 32 (k_rem (k_pd part amount 48 0) total)) total)) total)) total) then
      (((((0 <<< ((16 : Int32).toInt64 &&& 63)) + k_pd part amount 48 0 / total) <<< ((16 : Int32).toInt64 &&& 63) + k_pd part amount 32 (k_rem (k_pd part amount 48 0) total) / total) <<< ((16 : Int32).toInt64 &&& 63) + k_pd part amount 16 (k_rem (k_pd part amount 32 (k_rem (k_pd part amount 48 0) total)) total) / total) <<< ((16 : Int32).toInt64 &&& 63) + k_pd part amount 0 (k_rem (k_pd part amount 16 (k_rem (k_pd part amount 32 (k_rem (k_pd part amount 48 0) total)) total)) total) / total) + 1
    else
      (((((0 <<< ((16 : Int32).toInt64 &&& 63)) + k_pd part amount 48 0 / total) <<< ((16 : Int32).toInt64 &&& 63) + k_pd part amount 32 (k_rem (k_pd part amount 48 0) total) / total) <<< ((16 : Int32).toInt64 &&& 63) + k_pd part amount 16 (k_rem (k_pd part amount 32 (k_rem (k_pd part amount 48 0) total)) total) / total) <<< ((16 : Int32).toInt64 &&& 63) + k_pd part amount 0 (k_rem (k_pd part amount 16 (k_rem (k_pd part amount 32 (k_rem (k_pd part amount 48 0) total)) total)) total) / total)
def k_isS (v : Int32) : Prop := (-1073741823) ≤ v ∧ v ≤ 1073741823
def k_isZ (v : Int32) : Prop := 0 ≤ v ∧ v ≤ 1073741823
/-- an answer that is a boolean -/
def k_b (P : Prop) (r : Int32) : Prop := (r = 1 ∧ P) ∨ (r = 0 ∧ ¬ P)
theorem k_b1 {P : Prop} (h : P) : k_b P 1 := Or.inl ⟨rfl, h⟩
theorem k_b0 {P : Prop} (h : ¬ P) : k_b P 0 := Or.inr ⟨rfl, h⟩
theorem k_div {s : Int64} (h : 1663497 ≤ s) : ¬ s / 297 = 0 := by
  intro e
  rw [Int64.le_iff_toInt_le] at h
  have h0 : (1663497 : Int64).toInt = 1663497 := by decide
  have h1 : (297 : Int64).toInt = 297 := by decide
  have h2 := congrArg Int64.toInt e
  rw [Int64.toInt_div, h1, Int64.toInt_zero] at h2
  have h3 : s.toInt < 2 ^ 63 := Int64.toInt_lt s
  rw [Int.tdiv_eq_ediv_of_nonneg (by omega), Int.bmod_eq_of_le (by omega) (by omega)] at h2
  omega
theorem k_pos {s : Int64} (h : 0 < s) : ¬ s = 0 := fun e => by
  rw [e] at h
  exact absurd h (by decide)
theorem k_nle {s : Int64} (h : 0 < s) : ¬ s ≤ 0 := (pz_ltN h).2.2.2
theorem k_nlt {x y : Int64} (h : x ≤ y) : ¬ y < x := by
  rw [Int64.le_iff_toInt_le] at h
  rw [Int64.lt_iff_toInt_lt]
  omega
theorem k_nlt' {x y : Int64} (h : x < y) : ¬ y ≤ x := (pz_ltN h).2.2.2
end
section
/-! small methods of the class -/
theorem i32_nle {x y : Int32} (h : x < y) : ¬ y ≤ x := by
  rw [Int32.lt_iff_toInt_lt] at h
  rw [Int32.le_iff_toInt_le]
  omega
theorem i32_nlt {x y : Int32} (h : x ≤ y) : ¬ y < x := by
  rw [Int32.le_iff_toInt_le] at h
  rw [Int32.lt_iff_toInt_lt]
  omega
theorem i32_le {x y : Int32} (h : ¬ x < y) : y ≤ x := by
  rw [Int32.lt_iff_toInt_lt] at h
  rw [Int32.le_iff_toInt_le]
  omega
theorem i32_lt {x y : Int32} (h : ¬ x ≤ y) : y < x := by
  rw [Int32.le_iff_toInt_le] at h
  rw [Int32.lt_iff_toInt_lt]
  omega
set_option maxHeartbeats 4000000 in
set_option maxRecDepth 100000 in
/-- Frame(h, t, g) -/
theorem c_FR_init (l : Launch) (G : gG) (L : List Nat) (f : Nat → va_E) (sz : Nat) (q : Nat) (h t g a b d : Int32) (hq : q ∈ L) (hf : f q = .inr (1, [.int a, .int b, .int d])) : mV l y_FR_init w_FR_init ({ frames := 1, cells := 0, slots := 0, locals := 20 }) G L f sz [.ref q, .int h, .int t, .int g] 0 0 (fun u => u = (L, va_up f q (.inr (1, [.int h, .int t, .int g])))) := by
  refine pz_met (cc := prog_4_method_1_code) (maxL := 4) (ret := none) (by decide) rfl (Nat.le_of_ble_eq_true rfl) ?_
  intro p e s m below meth c ls hx hb hr hml hts hown hlocks hin hsz hK hP hD hS hA hz hl
  have htb : ∀ w ∈ TB, w.before _ s = true := fun w h => hts w (List.mem_cons_of_mem _ h)
  have hl : lv_has ls 4 [(0, .ref q), (1, .int h), (2, .int t), (3, .int g)] := hl
  refine lv_aload_n hx hb d_FR_init_0 rfl (lv_at hl 0 rfl) ?_
  refine W.objInit hx hb hown (htb _ tw_69) (htb _ tw_33) (htb _ tw_34) rfl (by rw [hml]; exact hl.1) rfl d_FR_init_1 (Nat.le_of_ble_eq_true rfl) (Nat.le_of_ble_eq_true rfl) ?_
  refine W.eq (g2 := F0 m 4 ls []) rfl ?_
  refine lv_aload_n hx hb d_FR_init_4 rfl (lv_at hl 0 rfl) ?_
  refine lv_iload_n hx hb d_FR_init_5 rfl (lv_at hl 1 rfl) ?_
  refine pz_putF (ci := 1) (v := .int h) (ty := .int) (C := "PageMaker$Frame") (T := T_FR) (N := 3) hx hb htb in_FR ty_FR to_FR nm_FR hown hK hP hD hS hq hf rfl 0 (by decide) (htb _ tw_70) (fun _ h9 => h9) rfl hin rfl rfl rfl rfl (Nat.le_of_ble_eq_true rfl) d_FR_init_6 (fun f1 H locs ef1 hP hD hS => ?_)
  have ef1 : f1 = va_up f q (.inr (1, [.int h, .int b, .int d])) := ef1
  refine lv_aload_n hx hb d_FR_init_9 rfl (lv_at hl 0 rfl) ?_
  refine lv_iload_n hx hb d_FR_init_10 rfl (lv_at hl 2 rfl) ?_
  have h_2 : f1 q = .inr (1, [.int h, .int b, .int d]) := by rw [ef1]; exact va_up_self _ _ _
  refine pz_putF (ci := 1) (v := .int t) (ty := .int) (C := "PageMaker$Frame") (T := T_FR) (N := 3) hx hb htb in_FR ty_FR to_FR nm_FR hown hK hP hD hS hq h_2 rfl 1 (by decide) (htb _ tw_73) (fun _ h9 => h9) rfl hin rfl rfl rfl rfl (Nat.le_of_ble_eq_true rfl) d_FR_init_11 (fun f3 H locs ef3 hP hD hS => ?_)
  have ef3 : f3 = va_up f1 q (.inr (1, [.int h, .int t, .int d])) := ef3
  refine lv_aload_n hx hb d_FR_init_14 rfl (lv_at hl 0 rfl) ?_
  refine lv_iload_n hx hb d_FR_init_15 rfl (lv_at hl 3 rfl) ?_
  have h_4 : f3 q = .inr (1, [.int h, .int t, .int d]) := by rw [ef3]; exact va_up_self _ _ _
  refine pz_putF (ci := 1) (v := .int g) (ty := .int) (C := "PageMaker$Frame") (T := T_FR) (N := 3) hx hb htb in_FR ty_FR to_FR nm_FR hown hK hP hD hS hq h_4 rfl 2 (by decide) (htb _ tw_75) (fun _ h9 => h9) rfl hin rfl rfl rfl rfl (Nat.le_of_ble_eq_true rfl) d_FR_init_16 (fun f5 H locs ef5 hP hD hS => ?_)
  have ef5 : f5 = va_up f3 q (.inr (1, [.int h, .int t, .int g])) := ef5
  exact pz_vret hx hb hr hlocks hK hP hD hS (Nat.le_of_ble_eq_true rfl) (Nat.le_of_ble_eq_true rfl) (by rw [ef5, ef3, ef1, bx_uu, bx_uu]) d_FR_init_19
set_option maxHeartbeats 4000000 in
set_option maxRecDepth 100000 in
/-- Totals.addSpace(x) -/
theorem c_TO_addSpace (l : Launch) (G : gG) (L : List Nat) (f : Nat → va_E) (sz : Nat) (t st : Nat) (len dep shr x : Int64) (ht : t ∈ L) (hf : f t = .inr (3, [.ref st, .long len, .long dep, .long shr])) : mV l y_TO_addSpace w_TO_addSpace ({ frames := 0, cells := 0, slots := 0, locals := 0 }) G L f sz [.ref t, .long x] 0 0 (fun u => u = (L, va_up f t (.inr (3, [.ref st, .long (len + (dep + x)), .long 0, .long shr])))) := by
  refine pz_met (cc := prog_10_method_3_code) (maxL := 3) (ret := none) (by decide) rfl (Nat.le_of_ble_eq_true rfl) ?_
  intro p e s m below meth c ls hx hb hr hml hts hown hlocks hin hsz hK hP hD hS hA hz hl
  have htb : ∀ w ∈ TB, w.before _ s = true := fun w h => hts w (List.mem_cons_of_mem _ h)
  have hl : lv_has ls 3 [(0, .ref t), (1, .long x)] := hl
  refine lv_aload_n hx hb d_TO_addSpace_0 rfl (lv_at hl 0 rfl) ?_
  refine lv_dup hx hb d_TO_addSpace_1 rfl ?_
  refine pz_get (ci := 3) (C := "PageMaker$Totals") (T := T_TO) (N := 4) hx hb htb in_TO hown hK hP ht hf rfl 1 (by decide) (htb _ tw_100) (fun _ h9 => h9) rfl d_TO_addSpace_2 ?_
  refine lv_aload_n hx hb d_TO_addSpace_5 rfl (lv_at hl 0 rfl) ?_
  refine pz_get (ci := 3) (C := "PageMaker$Totals") (T := T_TO) (N := 4) hx hb htb in_TO hown hK hP ht hf rfl 2 (by decide) (htb _ tw_105) (fun _ h9 => h9) rfl d_TO_addSpace_6 ?_
  refine lv_lload_n hx hb d_TO_addSpace_9 rfl (lv_at hl 1 rfl) ?_
  refine lv_ladd hx hb d_TO_addSpace_10 ?_
  refine lv_ladd hx hb d_TO_addSpace_11 ?_
  refine pz_put (ci := 3) (v := .long (len + (dep + x))) (ty := .long) (C := "PageMaker$Totals") (T := T_TO) (N := 4) hx hb htb in_TO ty_TO to_TO nm_TO hown hK hP hD hS ht hf rfl 1 (by decide) (htb _ tw_100) (fun _ h9 => h9) rfl rfl rfl rfl (Nat.le_of_ble_eq_true rfl) d_TO_addSpace_12 (fun f1 H locs ef1 hP hD hS => ?_)
  have ef1 : f1 = va_up f t (.inr (3, [.ref st, .long (len + (dep + x)), .long dep, .long shr])) := ef1
  refine lv_aload_n hx hb d_TO_addSpace_15 rfl (lv_at hl 0 rfl) ?_
  refine lv_lconst (v := 0) hx hb d_TO_addSpace_16 rfl ?_
  have h_2 : f1 t = .inr (3, [.ref st, .long (len + (dep + x)), .long dep, .long shr]) := by rw [ef1]; exact va_up_self _ _ _
  refine pz_put (ci := 3) (v := .long 0) (ty := .long) (C := "PageMaker$Totals") (T := T_TO) (N := 4) hx hb htb in_TO ty_TO to_TO nm_TO hown hK hP hD hS ht h_2 rfl 2 (by decide) (htb _ tw_105) (fun _ h9 => h9) rfl rfl rfl rfl (Nat.le_of_ble_eq_true rfl) d_TO_addSpace_17 (fun f3 H locs ef3 hP hD hS => ?_)
  have ef3 : f3 = va_up f1 t (.inr (3, [.ref st, .long (len + (dep + x)), .long 0, .long shr])) := ef3
  exact pz_vret hx hb hr hlocks hK hP hD hS (Nat.le_of_ble_eq_true rfl) (Nat.le_of_ble_eq_true rfl) (by rw [ef3, ef1, bx_uu]) d_TO_addSpace_20
set_option maxHeartbeats 4000000 in
set_option maxRecDepth 100000 in
/-- isSize -/
theorem c_PM_isSize (l : Launch) (v : Int32) : pI l y_PM_isSize w_PM_isSize ({ frames := 0, cells := 0, slots := 0, locals := 0 }) [.int v] (k_b (k_isS v)) := by
  refine pz_metP (cc := prog_1_method_13_code) (maxL := 1) (ret := (some .boolean)) (by decide) rfl (Nat.le_of_ble_eq_true rfl) ?_
  intro p e s m below meth c ls hx hb hr hml hts hown hlocks hl
  have htb : ∀ w ∈ TB, w.before _ s = true := fun w h => hts w (List.mem_cons_of_mem _ h)
  have hl : lv_has ls 1 [(0, .int v)] := hl
  refine lv_iload_n hx hb d_PM_isSize_0 rfl (lv_at hl 0 rfl) ?_
  refine lv_ldc (v := (-1073741823)) hx hb hown (htb _ tw_200) d_PM_isSize_1 ?_
  refine lv_icmp_lt (tgt := 16) hx hb d_PM_isSize_3 (by decide) (fun c_1 => ?_) (fun c_1 => ?_)
  · refine lv_iconst (v := 0) hx hb d_PM_isSize_16 (by decide) ?_
    exact pz_iretS hx hb hr rfl hlocks (k_b0 (fun h => absurd h.1 (i32_nle c_1))) d_PM_isSize_17
  · refine lv_iload_n hx hb d_PM_isSize_6 rfl (lv_at hl 0 rfl) ?_
    refine lv_ldc (v := 1073741823) hx hb hown (htb _ tw_196) d_PM_isSize_7 ?_
    refine lv_icmp_gt (tgt := 16) hx hb d_PM_isSize_9 (by decide) (fun c_2 => ?_) (fun c_2 => ?_)
    · refine lv_iconst (v := 0) hx hb d_PM_isSize_16 (by decide) ?_
      exact pz_iretS hx hb hr rfl hlocks (k_b0 (fun h => absurd h.2 (i32_nle c_2))) d_PM_isSize_17
    · refine lv_iconst (v := 1) hx hb d_PM_isSize_12 (by decide) ?_
      refine lv_goto (tgt := 17) hx hb d_PM_isSize_13 (by decide) ?_
      exact pz_iretS hx hb hr rfl hlocks (k_b1 ⟨i32_le c_1, i32_le c_2⟩) d_PM_isSize_17
set_option maxHeartbeats 4000000 in
set_option maxRecDepth 100000 in
/-- isSizeFromZero -/
theorem c_PM_isSizeFromZero (l : Launch) (v : Int32) : pI l y_PM_isSizeFromZero w_PM_isSizeFromZero ({ frames := 0, cells := 0, slots := 0, locals := 0 }) [.int v] (k_b (k_isZ v)) := by
  refine pz_metP (cc := prog_1_method_14_code) (maxL := 1) (ret := (some .boolean)) (by decide) rfl (Nat.le_of_ble_eq_true rfl) ?_
  intro p e s m below meth c ls hx hb hr hml hts hown hlocks hl
  have htb : ∀ w ∈ TB, w.before _ s = true := fun w h => hts w (List.mem_cons_of_mem _ h)
  have hl : lv_has ls 1 [(0, .int v)] := hl
  refine lv_iload_n hx hb d_PM_isSizeFromZero_0 rfl (lv_at hl 0 rfl) ?_
  refine lv_if_lt (tgt := 14) hx hb d_PM_isSizeFromZero_1 (by decide) (fun c_1 => ?_) (fun c_1 => ?_)
  · refine lv_iconst (v := 0) hx hb d_PM_isSizeFromZero_14 (by decide) ?_
    exact pz_iretS hx hb hr rfl hlocks (k_b0 (fun h => absurd h.1 (i32_nle c_1))) d_PM_isSizeFromZero_15
  · refine lv_iload_n hx hb d_PM_isSizeFromZero_4 rfl (lv_at hl 0 rfl) ?_
    refine lv_ldc (v := 1073741823) hx hb hown (htb _ tw_196) d_PM_isSizeFromZero_5 ?_
    refine lv_icmp_gt (tgt := 14) hx hb d_PM_isSizeFromZero_7 (by decide) (fun c_2 => ?_) (fun c_2 => ?_)
    · refine lv_iconst (v := 0) hx hb d_PM_isSizeFromZero_14 (by decide) ?_
      exact pz_iretS hx hb hr rfl hlocks (k_b0 (fun h => absurd h.2 (i32_nle c_2))) d_PM_isSizeFromZero_15
    · refine lv_iconst (v := 1) hx hb d_PM_isSizeFromZero_10 (by decide) ?_
      refine lv_goto (tgt := 15) hx hb d_PM_isSizeFromZero_11 (by decide) ?_
      exact pz_iretS hx hb hr rfl hlocks (k_b1 ⟨i32_le c_1, i32_le c_2⟩) d_PM_isSizeFromZero_15
set_option maxHeartbeats 4000000 in
set_option maxRecDepth 100000 in
/-- costOf(b, p) -/
theorem c_PM_costOf (l : Launch) (bb pp : Int32) : pI l y_PM_costOf w_PM_costOf ({ frames := 0, cells := 0, slots := 0, locals := 0 }) [.int bb, .int pp] (fun r => r = k_cost bb pp) := by
  refine pz_metP (cc := prog_1_method_25_code) (maxL := 2) (ret := (some .int)) (by decide) rfl (Nat.le_of_ble_eq_true rfl) ?_
  intro p e s m below meth c ls hx hb hr hml hts hown hlocks hl
  have htb : ∀ w ∈ TB, w.before _ s = true := fun w h => hts w (List.mem_cons_of_mem _ h)
  have hl : lv_has ls 2 [(0, .int bb), (1, .int pp)] := hl
  refine lv_iload_n hx hb d_PM_costOf_0 rfl (lv_at hl 0 rfl) ?_
  refine lv_ldc (v := 1073741823) hx hb hown (htb _ tw_196) d_PM_costOf_1 ?_
  refine lv_icmp_ne (tgt := 9) hx hb d_PM_costOf_3 (by decide) (fun c_1 => ?_) (fun c_1 => ?_)
  · refine lv_iload_n hx hb d_PM_costOf_9 rfl (lv_at hl 1 rfl) ?_
    refine lv_sipush (v := (-10000)) hx hb d_PM_costOf_10 (by decide) ?_
    refine lv_icmp_gt (tgt := 18) hx hb d_PM_costOf_13 (by decide) (fun c_2 => ?_) (fun c_2 => ?_)
    · refine lv_iload_n hx hb d_PM_costOf_18 rfl (lv_at hl 0 rfl) ?_
      refine lv_sipush (v := 10000) hx hb d_PM_costOf_19 (by decide) ?_
      refine lv_icmp_ge (tgt := 31) hx hb d_PM_costOf_22 (by decide) (fun c_3 => ?_) (fun c_3 => ?_)
      · refine lv_ldc (v := 100000) hx hb hown (htb _ tw_439) d_PM_costOf_31 ?_
        exact pz_iretS hx hb hr rfl hlocks (by rw [k_cost, if_neg c_1, if_neg (i32_nle c_2), if_neg (i32_nlt c_3)]) d_PM_costOf_33
      · refine lv_iload_n hx hb d_PM_costOf_25 rfl (lv_at hl 0 rfl) ?_
        refine lv_iload_n hx hb d_PM_costOf_26 rfl (lv_at hl 1 rfl) ?_
        refine lv_iadd hx hb d_PM_costOf_27 ?_
        refine lv_goto (tgt := 33) hx hb d_PM_costOf_28 (by decide) ?_
        exact pz_iretS hx hb hr rfl hlocks (by rw [k_cost, if_neg c_1, if_neg (i32_nle c_2), if_pos (i32_lt c_3)]) d_PM_costOf_33
    · refine lv_iload_n hx hb d_PM_costOf_16 rfl (lv_at hl 1 rfl) ?_
      exact pz_iretS hx hb hr rfl hlocks (by rw [k_cost, if_neg c_1, if_pos (i32_le c_2)]) d_PM_costOf_17
  · refine lv_ldc (v := 1073741823) hx hb hown (htb _ tw_196) d_PM_costOf_6 ?_
    exact pz_iretS hx hb hr rfl hlocks (by rw [k_cost, if_pos c_1]) d_PM_costOf_8
set_option maxHeartbeats 4000000 in
set_option maxRecDepth 100000 in
/-- badnessOf(t, x) -/
theorem c_PM_badnessOf (l : Launch) (t x : Int64) : pI l y_PM_badnessOf w_PM_badnessOf ({ frames := 0, cells := 0, slots := 0, locals := 0 }) [.long t, .long x] (fun r => r = k_bad t x) := by
  refine pz_metP (cc := prog_1_method_24_code) (maxL := 6) (ret := (some .int)) (by decide) rfl (Nat.le_of_ble_eq_true rfl) ?_
  intro p e s m below meth c ls hx hb hr hml hts hown hlocks hl
  have htb : ∀ w ∈ TB, w.before _ s = true := fun w h => hts w (List.mem_cons_of_mem _ h)
  have hl : lv_has ls 6 [(0, .long t), (2, .long x)] := hl
  refine lv_lload_n hx hb d_PM_badnessOf_0 rfl (lv_at hl 1 rfl) ?_
  refine lv_lconst (v := 0) hx hb d_PM_badnessOf_1 rfl ?_
  refine pz_lgt (tgt := 10) hx hb d_PM_badnessOf_2 d_PM_badnessOf_3 (by decide) (fun c_1 => ?_) (fun c_1 => ?_)
  · refine lv_lload_n hx hb d_PM_badnessOf_10 rfl (lv_at hl 0 rfl) ?_
    refine lv_ldc2 (v := 7230584) hx hb hown (htb _ tw_429) d_PM_badnessOf_11 ?_
    refine pz_lgt (tgt := 30) hx hb d_PM_badnessOf_14 d_PM_badnessOf_15 (by decide) (fun c_2 => ?_) (fun c_2 => ?_)
    · refine lv_lload_n hx hb d_PM_badnessOf_30 rfl (lv_at hl 1 rfl) ?_
      refine lv_ldc2 (v := 1663497) hx hb hown (htb _ tw_431) d_PM_badnessOf_31 ?_
      refine pz_llt (tgt := 50) hx hb d_PM_badnessOf_34 d_PM_badnessOf_35 (by decide) (fun c_3 => ?_) (fun c_3 => ?_)
      · refine lv_lload_n hx hb d_PM_badnessOf_50 rfl (lv_at hl 0 rfl) ?_
        refine lv_lstore (lv' := [(4, .long t), (0, .long t), (2, .long x)]) hx hb d_PM_badnessOf_51 hl (by decide) rfl (fun ls hl => ?_)
        refine lv_lload hx hb d_PM_badnessOf_53 (lv_at hl 0 rfl) ?_
        refine lv_ldc2 (v := 1290) hx hb hown (htb _ tw_432) d_PM_badnessOf_55 ?_
        refine pz_lle (tgt := 68) hx hb d_PM_badnessOf_58 d_PM_badnessOf_59 (by decide) (fun c_4 => ?_) (fun c_4 => ?_)
        · refine lv_lload hx hb d_PM_badnessOf_68 (lv_at hl 0 rfl) ?_
          refine lv_lload hx hb d_PM_badnessOf_70 (lv_at hl 0 rfl) ?_
          refine lv_lmul hx hb d_PM_badnessOf_72 ?_
          refine lv_lload hx hb d_PM_badnessOf_73 (lv_at hl 0 rfl) ?_
          refine lv_lmul hx hb d_PM_badnessOf_75 ?_
          refine lv_ldc2 (v := 131072) hx hb hown (htb _ tw_433) d_PM_badnessOf_76 ?_
          refine lv_ladd hx hb d_PM_badnessOf_79 ?_
          refine lv_ldc2 (v := 262144) hx hb hown (htb _ tw_434) d_PM_badnessOf_80 ?_
          have hne5 : ¬ (262144 : Int64) = 0 := by decide
          refine lv_ldiv hx hb d_PM_badnessOf_83 hne5 ?_
          refine lv_l2i hx hb d_PM_badnessOf_84 rfl ?_
          exact pz_iretS hx hb hr rfl hlocks (by rw [k_bad, if_neg (k_nle c_1), if_neg (k_nlt' c_2), if_neg (k_nlt' c_3), if_neg (k_nlt c_4)]) d_PM_badnessOf_85
        · refine lv_sipush (v := 10000) hx hb d_PM_badnessOf_62 (by decide) ?_
          refine lv_goto (tgt := 85) hx hb d_PM_badnessOf_65 (by decide) ?_
          exact pz_iretS hx hb hr rfl hlocks (by rw [k_bad, if_neg (k_nle c_1), if_neg (k_nlt' c_2), if_neg (k_nlt' c_3), if_pos c_4]) d_PM_badnessOf_85
      · refine lv_lload_n hx hb d_PM_badnessOf_38 rfl (lv_at hl 0 rfl) ?_
        refine lv_lload_n hx hb d_PM_badnessOf_39 rfl (lv_at hl 1 rfl) ?_
        refine lv_ldc2 (v := 297) hx hb hown (htb _ tw_430) d_PM_badnessOf_40 ?_
        have hne6 : ¬ (297 : Int64) = 0 := by decide
        refine lv_ldiv hx hb d_PM_badnessOf_43 hne6 ?_
        have hne7 : ¬ (x / 297) = 0 := k_div c_3
        refine lv_ldiv hx hb d_PM_badnessOf_44 hne7 ?_
        refine lv_lstore (lv' := [(4, .long (t / (x / 297))), (0, .long t), (2, .long x)]) hx hb d_PM_badnessOf_45 hl (by decide) rfl (fun ls hl => ?_)
        refine lv_goto (tgt := 53) hx hb d_PM_badnessOf_47 (by decide) ?_
        refine lv_lload hx hb d_PM_badnessOf_53 (lv_at hl 0 rfl) ?_
        refine lv_ldc2 (v := 1290) hx hb hown (htb _ tw_432) d_PM_badnessOf_55 ?_
        refine pz_lle (tgt := 68) hx hb d_PM_badnessOf_58 d_PM_badnessOf_59 (by decide) (fun c_8 => ?_) (fun c_8 => ?_)
        · refine lv_lload hx hb d_PM_badnessOf_68 (lv_at hl 0 rfl) ?_
          refine lv_lload hx hb d_PM_badnessOf_70 (lv_at hl 0 rfl) ?_
          refine lv_lmul hx hb d_PM_badnessOf_72 ?_
          refine lv_lload hx hb d_PM_badnessOf_73 (lv_at hl 0 rfl) ?_
          refine lv_lmul hx hb d_PM_badnessOf_75 ?_
          refine lv_ldc2 (v := 131072) hx hb hown (htb _ tw_433) d_PM_badnessOf_76 ?_
          refine lv_ladd hx hb d_PM_badnessOf_79 ?_
          refine lv_ldc2 (v := 262144) hx hb hown (htb _ tw_434) d_PM_badnessOf_80 ?_
          have hne9 : ¬ (262144 : Int64) = 0 := by decide
          refine lv_ldiv hx hb d_PM_badnessOf_83 hne9 ?_
          refine lv_l2i hx hb d_PM_badnessOf_84 rfl ?_
          exact pz_iretS hx hb hr rfl hlocks (by rw [k_bad, if_neg (k_nle c_1), if_neg (k_nlt' c_2), if_pos c_3, if_neg (k_nlt c_8)]) d_PM_badnessOf_85
        · refine lv_sipush (v := 10000) hx hb d_PM_badnessOf_62 (by decide) ?_
          refine lv_goto (tgt := 85) hx hb d_PM_badnessOf_65 (by decide) ?_
          exact pz_iretS hx hb hr rfl hlocks (by rw [k_bad, if_neg (k_nle c_1), if_neg (k_nlt' c_2), if_pos c_3, if_pos c_8]) d_PM_badnessOf_85
    · refine lv_ldc2 (v := 297) hx hb hown (htb _ tw_430) d_PM_badnessOf_18 ?_
      refine lv_lload_n hx hb d_PM_badnessOf_21 rfl (lv_at hl 0 rfl) ?_
      refine lv_lmul hx hb d_PM_badnessOf_22 ?_
      refine lv_lload_n hx hb d_PM_badnessOf_23 rfl (lv_at hl 1 rfl) ?_
      have hne10 : ¬ x = 0 := k_pos c_1
      refine lv_ldiv hx hb d_PM_badnessOf_24 hne10 ?_
      refine lv_lstore (lv' := [(4, .long (((297 : Int64) * t) / x)), (0, .long t), (2, .long x)]) hx hb d_PM_badnessOf_25 hl (by decide) rfl (fun ls hl => ?_)
      refine lv_goto (tgt := 53) hx hb d_PM_badnessOf_27 (by decide) ?_
      refine lv_lload hx hb d_PM_badnessOf_53 (lv_at hl 0 rfl) ?_
      refine lv_ldc2 (v := 1290) hx hb hown (htb _ tw_432) d_PM_badnessOf_55 ?_
      refine pz_lle (tgt := 68) hx hb d_PM_badnessOf_58 d_PM_badnessOf_59 (by decide) (fun c_11 => ?_) (fun c_11 => ?_)
      · refine lv_lload hx hb d_PM_badnessOf_68 (lv_at hl 0 rfl) ?_
        refine lv_lload hx hb d_PM_badnessOf_70 (lv_at hl 0 rfl) ?_
        refine lv_lmul hx hb d_PM_badnessOf_72 ?_
        refine lv_lload hx hb d_PM_badnessOf_73 (lv_at hl 0 rfl) ?_
        refine lv_lmul hx hb d_PM_badnessOf_75 ?_
        refine lv_ldc2 (v := 131072) hx hb hown (htb _ tw_433) d_PM_badnessOf_76 ?_
        refine lv_ladd hx hb d_PM_badnessOf_79 ?_
        refine lv_ldc2 (v := 262144) hx hb hown (htb _ tw_434) d_PM_badnessOf_80 ?_
        have hne12 : ¬ (262144 : Int64) = 0 := by decide
        refine lv_ldiv hx hb d_PM_badnessOf_83 hne12 ?_
        refine lv_l2i hx hb d_PM_badnessOf_84 rfl ?_
        exact pz_iretS hx hb hr rfl hlocks (by rw [k_bad, if_neg (k_nle c_1), if_pos c_2, if_neg (k_nlt c_11)]) d_PM_badnessOf_85
      · refine lv_sipush (v := 10000) hx hb d_PM_badnessOf_62 (by decide) ?_
        refine lv_goto (tgt := 85) hx hb d_PM_badnessOf_65 (by decide) ?_
        exact pz_iretS hx hb hr rfl hlocks (by rw [k_bad, if_neg (k_nle c_1), if_pos c_2, if_pos c_11]) d_PM_badnessOf_85
  · refine lv_sipush (v := 10000) hx hb d_PM_badnessOf_6 (by decide) ?_
    exact pz_iretS hx hb hr rfl hlocks (by rw [k_bad, if_pos c_1]) d_PM_badnessOf_9
end
section
/-! methods that change nothing -/
set_option maxHeartbeats 4000000 in
set_option maxRecDepth 100000 in
/-- proportion(pa, am, to) -/
theorem c_PM_proportion (l : Launch) (pa am to : Int64) : pJ l y_PM_proportion w_PM_proportion ({ frames := 0, cells := 0, slots := 0, locals := 0 }) [.long pa, .long am, .long to] (fun r => r = k_prop pa am to) := by
  refine pz_metP (cc := prog_1_method_26_code) (maxL := 13) (ret := (some .long)) (by decide) rfl (Nat.le_of_ble_eq_true rfl) ?_
  intro p e s m below meth c ls hx hb hr hml hts hown hlocks hl
  have htb : ∀ w ∈ TB, w.before _ s = true := fun w h => hts w (List.mem_cons_of_mem _ h)
  have hl : lv_has ls 13 [(0, .long pa), (2, .long am), (4, .long to)] := hl
  refine lv_lload hx hb d_PM_proportion_0 (lv_at hl 2 rfl) ?_
  refine lv_lconst (v := 0) hx hb d_PM_proportion_2 rfl ?_
  refine pz_lgt (tgt := 9) hx hb d_PM_proportion_3 d_PM_proportion_4 (by decide) (fun c_1 => ?_) (fun c_1 => ?_)
  · refine lv_lconst (v := 0) hx hb d_PM_proportion_9 rfl ?_
    refine lv_lstore (lv' := [(6, .long 0), (0, .long pa), (2, .long am), (4, .long to)]) hx hb d_PM_proportion_10 hl (by decide) rfl (fun ls hl => ?_)
    refine lv_lconst (v := 0) hx hb d_PM_proportion_12 rfl ?_
    refine lv_lstore (lv' := [(8, .long 0), (6, .long 0), (0, .long pa), (2, .long am), (4, .long to)]) hx hb d_PM_proportion_13 hl (by decide) rfl (fun ls hl => ?_)
    refine lv_bipush (v := 48) hx hb d_PM_proportion_15 (by decide) ?_
    refine lv_istore (lv' := [(10, .int 48), (8, .long 0), (6, .long 0), (0, .long pa), (2, .long am), (4, .long to)]) hx hb d_PM_proportion_17 hl (by decide) rfl (fun ls hl => ?_)
    refine lv_iload hx hb d_PM_proportion_19 (lv_at hl 0 rfl) ?_
    refine lv_if_lt (tgt := 68) hx hb d_PM_proportion_21 (by decide) (fun c0 => absurd c0 (by decide)) (fun _ => ?_)
    refine lv_lload hx hb d_PM_proportion_24 (lv_at hl 1 rfl) ?_
    refine lv_bipush (v := 16) hx hb d_PM_proportion_26 (by decide) ?_
    refine lv_lshl hx hb d_PM_proportion_28 rfl ?_
    refine lv_lload_n hx hb d_PM_proportion_29 rfl (lv_at hl 3 rfl) ?_
    refine lv_lload_n hx hb d_PM_proportion_30 rfl (lv_at hl 4 rfl) ?_
    refine lv_iload hx hb d_PM_proportion_31 (lv_at hl 0 rfl) ?_
    refine lv_lushr hx hb d_PM_proportion_33 rfl ?_
    refine lv_ldc2 (v := 65535) hx hb hown (htb _ tw_650) d_PM_proportion_34 ?_
    refine lv_land hx hb d_PM_proportion_37 ?_
    refine lv_lmul hx hb d_PM_proportion_38 ?_
    refine lv_ladd hx hb d_PM_proportion_39 ?_
    refine lv_topl (fun x2 ex2 => ?_)
    refine lv_lstore (lv' := [(11, .long x2), (10, .int 48), (8, .long 0), (6, .long 0), (0, .long pa), (2, .long am), (4, .long to)]) hx hb d_PM_proportion_40 hl (by decide) rfl (fun ls hl => ?_)
    refine lv_lload hx hb d_PM_proportion_42 (lv_at hl 3 rfl) ?_
    refine lv_bipush (v := 16) hx hb d_PM_proportion_44 (by decide) ?_
    refine lv_lshl hx hb d_PM_proportion_46 rfl ?_
    refine lv_lload hx hb d_PM_proportion_47 (lv_at hl 0 rfl) ?_
    refine lv_lload hx hb d_PM_proportion_49 (lv_at hl 6 rfl) ?_
    have hne3 : ¬ to = 0 := k_pos c_1
    refine lv_ldiv hx hb d_PM_proportion_51 hne3 ?_
    refine lv_ladd hx hb d_PM_proportion_52 ?_
    refine lv_topl (fun x4 ex4 => ?_)
    refine lv_lstore (lv' := [(6, .long x4), (11, .long x2), (10, .int 48), (8, .long 0), (0, .long pa), (2, .long am), (4, .long to)]) hx hb d_PM_proportion_53 hl (by decide) rfl (fun ls hl => ?_)
    refine lv_lload hx hb d_PM_proportion_55 (lv_at hl 1 rfl) ?_
    refine lv_lload hx hb d_PM_proportion_57 (lv_at hl 6 rfl) ?_
    have hne5 : ¬ to = 0 := k_pos c_1
    refine lv_lrem hx hb d_PM_proportion_59 hne5 ?_
    refine lv_topl (fun x6 ex6 => ?_)
    refine lv_lstore (lv' := [(8, .long x6), (6, .long x4), (11, .long x2), (10, .int 48), (0, .long pa), (2, .long am), (4, .long to)]) hx hb d_PM_proportion_60 hl (by decide) rfl (fun ls hl => ?_)
    refine lv_iinc (v := 32) (lv' := [(10, .int 32), (8, .long x6), (6, .long x4), (11, .long x2), (0, .long pa), (2, .long am), (4, .long to)]) hx hb d_PM_proportion_62 hl (k := 3) rfl (by decide) (by decide) rfl (fun ls hl => ?_)
    refine lv_goto (tgt := 19) hx hb d_PM_proportion_65 (by decide) ?_
    refine lv_iload hx hb d_PM_proportion_19 (lv_at hl 0 rfl) ?_
    have ex2 : x2 = k_pd pa am 48 0 := ex2
    have ex6 : x6 = k_rem x2 to := ex6
    refine lv_if_lt (tgt := 68) hx hb d_PM_proportion_21 (by decide) (fun c0 => absurd c0 (by decide)) (fun _ => ?_)
    refine lv_lload hx hb d_PM_proportion_24 (lv_at hl 1 rfl) ?_
    refine lv_bipush (v := 16) hx hb d_PM_proportion_26 (by decide) ?_
    refine lv_lshl hx hb d_PM_proportion_28 rfl ?_
    refine lv_lload_n hx hb d_PM_proportion_29 rfl (lv_at hl 4 rfl) ?_
    refine lv_lload_n hx hb d_PM_proportion_30 rfl (lv_at hl 5 rfl) ?_
    refine lv_iload hx hb d_PM_proportion_31 (lv_at hl 0 rfl) ?_
    refine lv_lushr hx hb d_PM_proportion_33 rfl ?_
    refine lv_ldc2 (v := 65535) hx hb hown (htb _ tw_650) d_PM_proportion_34 ?_
    refine lv_land hx hb d_PM_proportion_37 ?_
    refine lv_lmul hx hb d_PM_proportion_38 ?_
    refine lv_ladd hx hb d_PM_proportion_39 ?_
    refine lv_topl (fun x7 ex7 => ?_)
    refine lv_lstore (lv' := [(11, .long x7), (10, .int 32), (8, .long x6), (6, .long x4), (0, .long pa), (2, .long am), (4, .long to)]) hx hb d_PM_proportion_40 hl (by decide) rfl (fun ls hl => ?_)
    refine lv_lload hx hb d_PM_proportion_42 (lv_at hl 3 rfl) ?_
    refine lv_bipush (v := 16) hx hb d_PM_proportion_44 (by decide) ?_
    refine lv_lshl hx hb d_PM_proportion_46 rfl ?_
    refine lv_lload hx hb d_PM_proportion_47 (lv_at hl 0 rfl) ?_
    refine lv_lload hx hb d_PM_proportion_49 (lv_at hl 6 rfl) ?_
    have hne8 : ¬ to = 0 := k_pos c_1
    refine lv_ldiv hx hb d_PM_proportion_51 hne8 ?_
    refine lv_ladd hx hb d_PM_proportion_52 ?_
    refine lv_topl (fun x9 ex9 => ?_)
    refine lv_lstore (lv' := [(6, .long x9), (11, .long x7), (10, .int 32), (8, .long x6), (0, .long pa), (2, .long am), (4, .long to)]) hx hb d_PM_proportion_53 hl (by decide) rfl (fun ls hl => ?_)
    refine lv_lload hx hb d_PM_proportion_55 (lv_at hl 1 rfl) ?_
    refine lv_lload hx hb d_PM_proportion_57 (lv_at hl 6 rfl) ?_
    have hne10 : ¬ to = 0 := k_pos c_1
    refine lv_lrem hx hb d_PM_proportion_59 hne10 ?_
    refine lv_topl (fun x11 ex11 => ?_)
    refine lv_lstore (lv' := [(8, .long x11), (6, .long x9), (11, .long x7), (10, .int 32), (0, .long pa), (2, .long am), (4, .long to)]) hx hb d_PM_proportion_60 hl (by decide) rfl (fun ls hl => ?_)
    refine lv_iinc (v := 16) (lv' := [(10, .int 16), (8, .long x11), (6, .long x9), (11, .long x7), (0, .long pa), (2, .long am), (4, .long to)]) hx hb d_PM_proportion_62 hl (k := 3) rfl (by decide) (by decide) rfl (fun ls hl => ?_)
    refine lv_goto (tgt := 19) hx hb d_PM_proportion_65 (by decide) ?_
    refine lv_iload hx hb d_PM_proportion_19 (lv_at hl 0 rfl) ?_
    have ex7 : x7 = k_pd pa am 32 x6 := ex7
    have ex11 : x11 = k_rem x7 to := ex11
    refine lv_if_lt (tgt := 68) hx hb d_PM_proportion_21 (by decide) (fun c0 => absurd c0 (by decide)) (fun _ => ?_)
    refine lv_lload hx hb d_PM_proportion_24 (lv_at hl 1 rfl) ?_
    refine lv_bipush (v := 16) hx hb d_PM_proportion_26 (by decide) ?_
    refine lv_lshl hx hb d_PM_proportion_28 rfl ?_
    refine lv_lload_n hx hb d_PM_proportion_29 rfl (lv_at hl 4 rfl) ?_
    refine lv_lload_n hx hb d_PM_proportion_30 rfl (lv_at hl 5 rfl) ?_
    refine lv_iload hx hb d_PM_proportion_31 (lv_at hl 0 rfl) ?_
    refine lv_lushr hx hb d_PM_proportion_33 rfl ?_
    refine lv_ldc2 (v := 65535) hx hb hown (htb _ tw_650) d_PM_proportion_34 ?_
    refine lv_land hx hb d_PM_proportion_37 ?_
    refine lv_lmul hx hb d_PM_proportion_38 ?_
    refine lv_ladd hx hb d_PM_proportion_39 ?_
    refine lv_topl (fun x12 ex12 => ?_)
    refine lv_lstore (lv' := [(11, .long x12), (10, .int 16), (8, .long x11), (6, .long x9), (0, .long pa), (2, .long am), (4, .long to)]) hx hb d_PM_proportion_40 hl (by decide) rfl (fun ls hl => ?_)
    refine lv_lload hx hb d_PM_proportion_42 (lv_at hl 3 rfl) ?_
    refine lv_bipush (v := 16) hx hb d_PM_proportion_44 (by decide) ?_
    refine lv_lshl hx hb d_PM_proportion_46 rfl ?_
    refine lv_lload hx hb d_PM_proportion_47 (lv_at hl 0 rfl) ?_
    refine lv_lload hx hb d_PM_proportion_49 (lv_at hl 6 rfl) ?_
    have hne13 : ¬ to = 0 := k_pos c_1
    refine lv_ldiv hx hb d_PM_proportion_51 hne13 ?_
    refine lv_ladd hx hb d_PM_proportion_52 ?_
    refine lv_topl (fun x14 ex14 => ?_)
    refine lv_lstore (lv' := [(6, .long x14), (11, .long x12), (10, .int 16), (8, .long x11), (0, .long pa), (2, .long am), (4, .long to)]) hx hb d_PM_proportion_53 hl (by decide) rfl (fun ls hl => ?_)
    refine lv_lload hx hb d_PM_proportion_55 (lv_at hl 1 rfl) ?_
    refine lv_lload hx hb d_PM_proportion_57 (lv_at hl 6 rfl) ?_
    have hne15 : ¬ to = 0 := k_pos c_1
    refine lv_lrem hx hb d_PM_proportion_59 hne15 ?_
    refine lv_topl (fun x16 ex16 => ?_)
    refine lv_lstore (lv' := [(8, .long x16), (6, .long x14), (11, .long x12), (10, .int 16), (0, .long pa), (2, .long am), (4, .long to)]) hx hb d_PM_proportion_60 hl (by decide) rfl (fun ls hl => ?_)
    refine lv_iinc (v := 0) (lv' := [(10, .int 0), (8, .long x16), (6, .long x14), (11, .long x12), (0, .long pa), (2, .long am), (4, .long to)]) hx hb d_PM_proportion_62 hl (k := 3) rfl (by decide) (by decide) rfl (fun ls hl => ?_)
    refine lv_goto (tgt := 19) hx hb d_PM_proportion_65 (by decide) ?_
    refine lv_iload hx hb d_PM_proportion_19 (lv_at hl 0 rfl) ?_
    have ex12 : x12 = k_pd pa am 16 x11 := ex12
    have ex16 : x16 = k_rem x12 to := ex16
    refine lv_if_lt (tgt := 68) hx hb d_PM_proportion_21 (by decide) (fun c0 => absurd c0 (by decide)) (fun _ => ?_)
    refine lv_lload hx hb d_PM_proportion_24 (lv_at hl 1 rfl) ?_
    refine lv_bipush (v := 16) hx hb d_PM_proportion_26 (by decide) ?_
    refine lv_lshl hx hb d_PM_proportion_28 rfl ?_
    refine lv_lload_n hx hb d_PM_proportion_29 rfl (lv_at hl 4 rfl) ?_
    refine lv_lload_n hx hb d_PM_proportion_30 rfl (lv_at hl 5 rfl) ?_
    refine lv_iload hx hb d_PM_proportion_31 (lv_at hl 0 rfl) ?_
    refine lv_lushr hx hb d_PM_proportion_33 rfl ?_
    refine lv_ldc2 (v := 65535) hx hb hown (htb _ tw_650) d_PM_proportion_34 ?_
    refine lv_land hx hb d_PM_proportion_37 ?_
    refine lv_lmul hx hb d_PM_proportion_38 ?_
    refine lv_ladd hx hb d_PM_proportion_39 ?_
    refine lv_topl (fun x17 ex17 => ?_)
    refine lv_lstore (lv' := [(11, .long x17), (10, .int 0), (8, .long x16), (6, .long x14), (0, .long pa), (2, .long am), (4, .long to)]) hx hb d_PM_proportion_40 hl (by decide) rfl (fun ls hl => ?_)
    refine lv_lload hx hb d_PM_proportion_42 (lv_at hl 3 rfl) ?_
    refine lv_bipush (v := 16) hx hb d_PM_proportion_44 (by decide) ?_
    refine lv_lshl hx hb d_PM_proportion_46 rfl ?_
    refine lv_lload hx hb d_PM_proportion_47 (lv_at hl 0 rfl) ?_
    refine lv_lload hx hb d_PM_proportion_49 (lv_at hl 6 rfl) ?_
    have hne18 : ¬ to = 0 := k_pos c_1
    refine lv_ldiv hx hb d_PM_proportion_51 hne18 ?_
    refine lv_ladd hx hb d_PM_proportion_52 ?_
    refine lv_topl (fun x19 ex19 => ?_)
    refine lv_lstore (lv' := [(6, .long x19), (11, .long x17), (10, .int 0), (8, .long x16), (0, .long pa), (2, .long am), (4, .long to)]) hx hb d_PM_proportion_53 hl (by decide) rfl (fun ls hl => ?_)
    refine lv_lload hx hb d_PM_proportion_55 (lv_at hl 1 rfl) ?_
    refine lv_lload hx hb d_PM_proportion_57 (lv_at hl 6 rfl) ?_
    have hne20 : ¬ to = 0 := k_pos c_1
    refine lv_lrem hx hb d_PM_proportion_59 hne20 ?_
    refine lv_topl (fun x21 ex21 => ?_)
    refine lv_lstore (lv' := [(8, .long x21), (6, .long x19), (11, .long x17), (10, .int 0), (0, .long pa), (2, .long am), (4, .long to)]) hx hb d_PM_proportion_60 hl (by decide) rfl (fun ls hl => ?_)
    refine lv_iinc (v := (-16)) (lv' := [(10, .int (-16)), (8, .long x21), (6, .long x19), (11, .long x17), (0, .long pa), (2, .long am), (4, .long to)]) hx hb d_PM_proportion_62 hl (k := 3) rfl (by decide) (by decide) rfl (fun ls hl => ?_)
    refine lv_goto (tgt := 19) hx hb d_PM_proportion_65 (by decide) ?_
    refine lv_iload hx hb d_PM_proportion_19 (lv_at hl 0 rfl) ?_
    have ex17 : x17 = k_pd pa am 0 x16 := ex17
    have ex21 : x21 = k_rem x17 to := ex21
    refine lv_if_lt (tgt := 68) hx hb d_PM_proportion_21 (by decide) (fun _ => ?_) (fun c0 => absurd c0 (by decide))
    refine lv_ldc2 (v := 2) hx hb hown (htb _ tw_651) d_PM_proportion_68 ?_
    refine lv_lload hx hb d_PM_proportion_71 (lv_at hl 1 rfl) ?_
    refine lv_lmul hx hb d_PM_proportion_73 ?_
    refine lv_lload hx hb d_PM_proportion_74 (lv_at hl 6 rfl) ?_
    refine pz_llt (tgt := 87) hx hb d_PM_proportion_76 d_PM_proportion_77 (by decide) (fun c_22 => ?_) (fun c_22 => ?_)
    · refine lv_lload hx hb d_PM_proportion_87 (lv_at hl 2 rfl) ?_
      exact pz_lretS hx hb hr hlocks (by subst ex21; subst ex19; subst ex17; subst ex16; subst ex14; subst ex12; subst ex11; subst ex9; subst ex7; subst ex6; subst ex4; subst ex2; rw [k_prop, if_neg (k_nle c_1), if_neg (k_nlt' c_22)]) d_PM_proportion_89
    · refine lv_lload hx hb d_PM_proportion_80 (lv_at hl 2 rfl) ?_
      refine lv_lconst (v := 1) hx hb d_PM_proportion_82 rfl ?_
      refine lv_ladd hx hb d_PM_proportion_83 ?_
      refine lv_goto (tgt := 89) hx hb d_PM_proportion_84 (by decide) ?_
      exact pz_lretS hx hb hr hlocks (by subst ex21; subst ex19; subst ex17; subst ex16; subst ex14; subst ex12; subst ex11; subst ex9; subst ex7; subst ex6; subst ex4; subst ex2; rw [k_prop, if_neg (k_nle c_1), if_pos c_22]) d_PM_proportion_89
  · refine lv_lconst (v := 0) hx hb d_PM_proportion_7 rfl ?_
    exact pz_lretS hx hb hr hlocks (by rw [k_prop, if_pos c_1]) d_PM_proportion_8
set_option maxHeartbeats 4000000 in
set_option maxRecDepth 100000 in
/-- EndedPage.holds(it) -/
theorem c_EP_holds (l : Launch) (G : gG) (L : List Nat) (f : Nat → va_E) (sz : Nat) (q fr : Nat) (i1 i2 i3 i4 i5 i6 it : Int32) (j1 j2 : Int64) (hq : q ∈ L) (hf : f q = .inr (9, [.ref fr, .int i1, .int i2, .int i3, .int i4, .int i5, .long j1, .int i6, .long j2])) : sI l y_EP_holds w_EP_holds ({ frames := 0, cells := 0, slots := 0, locals := 0 }) G L f sz [.ref q, .int it] (k_b (i1 ≤ it ∧ it < i2)) := by
  refine pz_met (cc := prog_3_method_2_code) (maxL := 2) (ret := (some .boolean)) (by decide) rfl (Nat.le_of_ble_eq_true rfl) ?_
  intro p e s m below meth c ls hx hb hr hml hts hown hlocks hin hsz hK hP hD hS hA hz hl
  have htb : ∀ w ∈ TB, w.before _ s = true := fun w h => hts w (List.mem_cons_of_mem _ h)
  have hl : lv_has ls 2 [(0, .ref q), (1, .int it)] := hl
  refine lv_iload_n hx hb d_EP_holds_0 rfl (lv_at hl 1 rfl) ?_
  refine lv_aload_n hx hb d_EP_holds_1 rfl (lv_at hl 0 rfl) ?_
  refine pz_get (ci := 9) (C := "PageMaker$EndedPage") (T := T_EP) (N := 9) hx hb htb in_EP hown hK hP hq hf rfl 1 (by decide) (htb _ tw_490) (fun _ h9 => h9) rfl d_EP_holds_2 ?_
  refine lv_icmp_lt (tgt := 20) hx hb d_EP_holds_5 (by decide) (fun c_1 => ?_) (fun c_1 => ?_)
  · refine lv_iconst (v := 0) hx hb d_EP_holds_20 (by decide) ?_
    exact pz_iretS hx hb hr rfl hlocks (k_b0 (fun h => absurd h.1 (i32_nle c_1))) d_EP_holds_21
  · refine lv_iload_n hx hb d_EP_holds_8 rfl (lv_at hl 1 rfl) ?_
    refine lv_aload_n hx hb d_EP_holds_9 rfl (lv_at hl 0 rfl) ?_
    refine pz_get (ci := 9) (C := "PageMaker$EndedPage") (T := T_EP) (N := 9) hx hb htb in_EP hown hK hP hq hf rfl 2 (by decide) (htb _ tw_492) (fun _ h9 => h9) rfl d_EP_holds_10 ?_
    refine lv_icmp_ge (tgt := 20) hx hb d_EP_holds_13 (by decide) (fun c_2 => ?_) (fun c_2 => ?_)
    · refine lv_iconst (v := 0) hx hb d_EP_holds_20 (by decide) ?_
      exact pz_iretS hx hb hr rfl hlocks (k_b0 (fun h => absurd h.2 (i32_nlt c_2))) d_EP_holds_21
    · refine lv_iconst (v := 1) hx hb d_EP_holds_16 (by decide) ?_
      refine lv_goto (tgt := 21) hx hb d_EP_holds_17 (by decide) ?_
      exact pz_iretS hx hb hr rfl hlocks (k_b1 ⟨i32_le c_1, i32_lt c_2⟩) d_EP_holds_21
set_option maxHeartbeats 4000000 in
set_option maxRecDepth 100000 in
/-- OpenPage.hasBegun() -/
theorem c_OP_hasBegun (l : Launch) (G : gG) (L : List Nat) (f : Nat → va_E) (sz : Nat) (q to fr : Nat) (i1 i2 i3 i4 i5 : Int32) (j1 : Int64) (hq : q ∈ L) (hf : f q = .inr (2, [.ref to, .ref fr, .int i1, .long j1, .int i2, .int i3, .int i4, .int i5])) : sI l y_OP_hasBegun w_OP_hasBegun ({ frames := 0, cells := 0, slots := 0, locals := 0 }) G L f sz [.ref q] (k_b (¬ i1 = (-1))) := by
  refine pz_met (cc := prog_8_method_2_code) (maxL := 1) (ret := (some .boolean)) (by decide) rfl (Nat.le_of_ble_eq_true rfl) ?_
  intro p e s m below meth c ls hx hb hr hml hts hown hlocks hin hsz hK hP hD hS hA hz hl
  have htb : ∀ w ∈ TB, w.before _ s = true := fun w h => hts w (List.mem_cons_of_mem _ h)
  have hl : lv_has ls 1 [(0, .ref q)] := hl
  refine lv_aload_n hx hb d_OP_hasBegun_0 rfl (lv_at hl 0 rfl) ?_
  refine pz_get (ci := 2) (C := "PageMaker$OpenPage") (T := T_OP) (N := 8) hx hb htb in_OP hown hK hP hq hf rfl 2 (by decide) (htb _ tw_129) (fun _ h9 => h9) rfl d_OP_hasBegun_1 ?_
  refine lv_iconst (v := (-1)) hx hb d_OP_hasBegun_4 (by decide) ?_
  refine lv_icmp_eq (tgt := 12) hx hb d_OP_hasBegun_5 (by decide) (fun c_1 => ?_) (fun c_1 => ?_)
  · refine lv_iconst (v := 0) hx hb d_OP_hasBegun_12 (by decide) ?_
    exact pz_iretS hx hb hr rfl hlocks (k_b0 (fun h => h c_1)) d_OP_hasBegun_13
  · refine lv_iconst (v := 1) hx hb d_OP_hasBegun_8 (by decide) ?_
    refine lv_goto (tgt := 13) hx hb d_OP_hasBegun_9 (by decide) ?_
    exact pz_iretS hx hb hr rfl hlocks (k_b1 c_1) d_OP_hasBegun_13
set_option maxHeartbeats 4000000 in
set_option maxRecDepth 100000 in
/-- Totals.greatestOrder() -/
theorem c_TO_greatestOrder (l : Launch) (G : gG) (L : List Nat) (f : Nat → va_E) (sz : Nat) (t sa : Nat) (len dep shr : Int64) (g : Nat → Int64) (ht : t ∈ L) (hf : f t = .inr (3, [.ref sa, .long len, .long dep, .long shr])) (hs : sa ∈ L) (hg : f sa = .inl (cJ G, 4, .inr (.inl g))) : sI l y_TO_greatestOrder w_TO_greatestOrder ({ frames := 0, cells := 0, slots := 0, locals := 0 }) G L f sz [.ref t] (fun r => r = k_go g) := by
  refine pz_met (cc := prog_10_method_4_code) (maxL := 2) (ret := (some .int)) (by decide) rfl (Nat.le_of_ble_eq_true rfl) ?_
  intro p e s m below meth c ls hx hb hr hml hts hown hlocks hin hsz hK hP hD hS hA hz hl
  have htb : ∀ w ∈ TB, w.before _ s = true := fun w h => hts w (List.mem_cons_of_mem _ h)
  have hl : lv_has ls 2 [(0, .ref t)] := hl
  refine lv_iconst (v := 3) hx hb d_TO_greatestOrder_0 (by decide) ?_
  refine lv_istore_n (lv' := [(1, .int 3), (0, .ref t)]) hx hb d_TO_greatestOrder_1 rfl hl (by decide) rfl (fun ls hl => ?_)
  refine lv_iload_n hx hb d_TO_greatestOrder_2 rfl (lv_at hl 0 rfl) ?_
  refine lv_if_le (tgt := 25) hx hb d_TO_greatestOrder_3 (by decide) (fun c0 => absurd c0 (by decide)) (fun _ => ?_)
  refine lv_aload_n hx hb d_TO_greatestOrder_6 rfl (lv_at hl 1 rfl) ?_
  refine pz_get (ci := 3) (C := "PageMaker$Totals") (T := T_TO) (N := 4) hx hb htb in_TO hown hK hP ht hf rfl 0 (by decide) (htb _ tw_96) (fun _ h9 => h9) rfl d_TO_greatestOrder_7 ?_
  refine lv_iload_n hx hb d_TO_greatestOrder_10 rfl (lv_at hl 0 rfl) ?_
  have hin1 : vp_in 3 4 := vp_in_nI (n := 3) (N := 4) (by decide) (by decide)
  refine pz_lald hx hb hK hP 1 hs hg rfl hin1 d_TO_greatestOrder_11 ?_
  refine lv_topl (fun x2 (ex2 : x2 = g 3) => ?_)
  subst ex2
  refine lv_lconst (v := 0) hx hb d_TO_greatestOrder_12 rfl ?_
  refine pz_lle (tgt := 19) hx hb d_TO_greatestOrder_13 d_TO_greatestOrder_14 (by decide) (fun c_3 => ?_) (fun c_3 => ?_)
  · refine lv_iinc (v := 2) (lv' := [(1, .int 2), (0, .ref t)]) hx hb d_TO_greatestOrder_19 hl (k := 0) rfl (by decide) (by decide) rfl (fun ls hl => ?_)
    refine lv_goto (tgt := 2) hx hb d_TO_greatestOrder_22 (by decide) ?_
    refine lv_iload_n hx hb d_TO_greatestOrder_2 rfl (lv_at hl 0 rfl) ?_
    refine lv_if_le (tgt := 25) hx hb d_TO_greatestOrder_3 (by decide) (fun c0 => absurd c0 (by decide)) (fun _ => ?_)
    refine lv_aload_n hx hb d_TO_greatestOrder_6 rfl (lv_at hl 1 rfl) ?_
    refine pz_get (ci := 3) (C := "PageMaker$Totals") (T := T_TO) (N := 4) hx hb htb in_TO hown hK hP ht hf rfl 0 (by decide) (htb _ tw_96) (fun _ h9 => h9) rfl d_TO_greatestOrder_7 ?_
    refine lv_iload_n hx hb d_TO_greatestOrder_10 rfl (lv_at hl 0 rfl) ?_
    have hin4 : vp_in 2 4 := vp_in_nI (n := 2) (N := 4) (by decide) (by decide)
    refine pz_lald hx hb hK hP 1 hs hg rfl hin4 d_TO_greatestOrder_11 ?_
    refine lv_topl (fun x5 (ex5 : x5 = g 2) => ?_)
    subst ex5
    refine lv_lconst (v := 0) hx hb d_TO_greatestOrder_12 rfl ?_
    refine pz_lle (tgt := 19) hx hb d_TO_greatestOrder_13 d_TO_greatestOrder_14 (by decide) (fun c_6 => ?_) (fun c_6 => ?_)
    · refine lv_iinc (v := 1) (lv' := [(1, .int 1), (0, .ref t)]) hx hb d_TO_greatestOrder_19 hl (k := 0) rfl (by decide) (by decide) rfl (fun ls hl => ?_)
      refine lv_goto (tgt := 2) hx hb d_TO_greatestOrder_22 (by decide) ?_
      refine lv_iload_n hx hb d_TO_greatestOrder_2 rfl (lv_at hl 0 rfl) ?_
      refine lv_if_le (tgt := 25) hx hb d_TO_greatestOrder_3 (by decide) (fun c0 => absurd c0 (by decide)) (fun _ => ?_)
      refine lv_aload_n hx hb d_TO_greatestOrder_6 rfl (lv_at hl 1 rfl) ?_
      refine pz_get (ci := 3) (C := "PageMaker$Totals") (T := T_TO) (N := 4) hx hb htb in_TO hown hK hP ht hf rfl 0 (by decide) (htb _ tw_96) (fun _ h9 => h9) rfl d_TO_greatestOrder_7 ?_
      refine lv_iload_n hx hb d_TO_greatestOrder_10 rfl (lv_at hl 0 rfl) ?_
      have hin7 : vp_in 1 4 := vp_in_nI (n := 1) (N := 4) (by decide) (by decide)
      refine pz_lald hx hb hK hP 1 hs hg rfl hin7 d_TO_greatestOrder_11 ?_
      refine lv_topl (fun x8 (ex8 : x8 = g 1) => ?_)
      subst ex8
      refine lv_lconst (v := 0) hx hb d_TO_greatestOrder_12 rfl ?_
      refine pz_lle (tgt := 19) hx hb d_TO_greatestOrder_13 d_TO_greatestOrder_14 (by decide) (fun c_9 => ?_) (fun c_9 => ?_)
      · refine lv_iinc (v := 0) (lv' := [(1, .int 0), (0, .ref t)]) hx hb d_TO_greatestOrder_19 hl (k := 0) rfl (by decide) (by decide) rfl (fun ls hl => ?_)
        refine lv_goto (tgt := 2) hx hb d_TO_greatestOrder_22 (by decide) ?_
        refine lv_iload_n hx hb d_TO_greatestOrder_2 rfl (lv_at hl 0 rfl) ?_
        refine lv_if_le (tgt := 25) hx hb d_TO_greatestOrder_3 (by decide) (fun _ => ?_) (fun c0 => absurd c0 (by decide))
        refine lv_iconst (v := 0) hx hb d_TO_greatestOrder_25 (by decide) ?_
        exact pz_iretS hx hb hr rfl hlocks (by rw [k_go, if_neg (k_nlt c_3), if_neg (k_nlt c_6), if_neg (k_nlt c_9)]) d_TO_greatestOrder_26
      · refine lv_iload_n hx hb d_TO_greatestOrder_17 rfl (lv_at hl 0 rfl) ?_
        exact pz_iretS hx hb hr rfl hlocks (by rw [k_go, if_neg (k_nlt c_3), if_neg (k_nlt c_6), if_pos c_9]) d_TO_greatestOrder_18
    · refine lv_iload_n hx hb d_TO_greatestOrder_17 rfl (lv_at hl 0 rfl) ?_
      exact pz_iretS hx hb hr rfl hlocks (by rw [k_go, if_neg (k_nlt c_3), if_pos c_6]) d_TO_greatestOrder_18
  · refine lv_iload_n hx hb d_TO_greatestOrder_17 rfl (lv_at hl 0 rfl) ?_
    exact pz_iretS hx hb hr rfl hlocks (by rw [k_go, if_pos c_3]) d_TO_greatestOrder_18
set_option maxHeartbeats 4000000 in
set_option maxRecDepth 100000 in
/-- Totals.badnessOfExcess(ex) -/
theorem c_TO_badnessOfExcess (l : Launch) (G : gG) (L : List Nat) (f : Nat → va_E) (sz : Nat) (t sa : Nat) (len dep shr ex : Int64) (g : Nat → Int64) (ht : t ∈ L) (hf : f t = .inr (3, [.ref sa, .long len, .long dep, .long shr])) (hs : sa ∈ L) (hg : f sa = .inl (cJ G, 4, .inr (.inl g))) : sI l y_TO_badnessOfExcess w_TO_badnessOfExcess ({ frames := 1, cells := 0, slots := 0, locals := 25 }) G L f sz [.ref t, .long ex] (fun r => r = k_boe g shr ex) := by
  refine pz_met (cc := prog_10_method_5_code) (maxL := 3) (ret := (some .int)) (by decide) rfl (Nat.le_of_ble_eq_true rfl) ?_
  intro p e s m below meth c ls hx hb hr hml hts hown hlocks hin hsz hK hP hD hS hA hz hl
  have htb : ∀ w ∈ TB, w.before _ s = true := fun w h => hts w (List.mem_cons_of_mem _ h)
  have hl : lv_has ls 3 [(0, .ref t), (1, .long ex)] := hl
  refine lv_lload_n hx hb d_TO_badnessOfExcess_0 rfl (lv_at hl 1 rfl) ?_
  refine lv_lconst (v := 0) hx hb d_TO_badnessOfExcess_1 rfl ?_
  refine pz_lle (tgt := 28) hx hb d_TO_badnessOfExcess_2 d_TO_badnessOfExcess_3 (by decide) (fun c_1 => ?_) (fun c_1 => ?_)
  · refine lv_lload_n hx hb d_TO_badnessOfExcess_28 rfl (lv_at hl 1 rfl) ?_
    refine lv_lconst (v := 0) hx hb d_TO_badnessOfExcess_29 rfl ?_
    refine pz_lne (tgt := 36) hx hb d_TO_badnessOfExcess_30 d_TO_badnessOfExcess_31 (by decide) (fun c_2 => ?_) (fun c_2 => ?_)
    · refine lv_lload_n hx hb d_TO_badnessOfExcess_36 rfl (lv_at hl 1 rfl) ?_
      refine lv_lneg hx hb d_TO_badnessOfExcess_37 ?_
      refine lv_aload_n hx hb d_TO_badnessOfExcess_38 rfl (lv_at hl 0 rfl) ?_
      refine pz_get (ci := 3) (C := "PageMaker$Totals") (T := T_TO) (N := 4) hx hb htb in_TO hown hK hP ht hf rfl 3 (by decide) (htb _ tw_108) (fun _ h9 => h9) rfl d_TO_badnessOfExcess_39 ?_
      refine pz_lle (tgt := 51) hx hb d_TO_badnessOfExcess_42 d_TO_badnessOfExcess_43 (by decide) (fun c_3 => ?_) (fun c_3 => ?_)
      · refine lv_lload_n hx hb d_TO_badnessOfExcess_51 rfl (lv_at hl 1 rfl) ?_
        refine lv_lneg hx hb d_TO_badnessOfExcess_52 ?_
        refine lv_aload_n hx hb d_TO_badnessOfExcess_53 rfl (lv_at hl 0 rfl) ?_
        refine pz_get (ci := 3) (C := "PageMaker$Totals") (T := T_TO) (N := 4) hx hb htb in_TO hown hK hP ht hf rfl 3 (by decide) (htb _ tw_108) (fun _ h9 => h9) rfl d_TO_badnessOfExcess_54 ?_
        refine vp_callSi (va_Run.run (va_runSN (As := [.long (-ex), .long shr]) (rest := []) ⟨hx, hb, hml, hown, hts⟩ (c_PM_badnessOf l (-ex) shr) ⟨va_cnB 2 hts (tb_good tw_428) rfl rfl rfl (hz.1 _ tn_426) (htb _ tw_1) (by decide +kernel) ⟨(Nat.le_of_ble_eq_true rfl), (Nat.le_of_ble_eq_true rfl)⟩, htb _ tw_427, trivial⟩ pz_preP rfl rfl hl.1 rfl (lv_room (Nat.le_of_ble_eq_true rfl)) d_TO_badnessOfExcess_57 ⟨(Nat.le_of_ble_eq_true rfl), (Nat.le_of_ble_eq_true rfl)⟩)) (fun r4 hw => ?_)
        have hw : r4 = (k_bad (-ex) shr) := hw
        subst r4
        exact pz_iretS hx hb hr rfl hlocks (by rw [k_boe, if_neg (k_nlt c_1), if_neg c_2, if_neg (k_nlt c_3)]) d_TO_badnessOfExcess_60
      · refine lv_ldc (v := 1073741823) hx hb hown (htb _ tw_435) d_TO_badnessOfExcess_46 ?_
        refine lv_goto (tgt := 60) hx hb d_TO_badnessOfExcess_48 (by decide) ?_
        exact pz_iretS hx hb hr rfl hlocks (by rw [k_boe, if_neg (k_nlt c_1), if_neg c_2, if_pos c_3]) d_TO_badnessOfExcess_60
    · refine lv_iconst (v := 0) hx hb d_TO_badnessOfExcess_34 (by decide) ?_
      exact pz_iretS hx hb hr rfl hlocks (by rw [k_boe, if_neg (k_nlt c_1), if_pos c_2]) d_TO_badnessOfExcess_35
  · refine lv_aload_n hx hb d_TO_badnessOfExcess_6 rfl (lv_at hl 0 rfl) ?_
    refine vp_callSi (va_Run.run (va_runV (As := []) (rest := []) ⟨hx, hb, hml, hown, hts⟩ (c_TO_greatestOrder l G L f _ t sa len dep shr g ht hf hs hg) (cwV 0 hts (tb_V tw_422 tw_423 tw_424 tw_7 tw_425) rfl rfl rfl (by decide +kernel) ⟨(Nat.le_of_ble_eq_true rfl), (Nat.le_of_ble_eq_true rfl)⟩) (pz_preV (zz_ok _ _ _) hK hP hD hS hA hz (ci := 3) rfl rfl ht hf) rfl rfl hl.1 rfl (lv_room (Nat.le_of_ble_eq_true rfl)) d_TO_badnessOfExcess_7 ⟨(Nat.le_of_ble_eq_true rfl), (Nat.le_of_ble_eq_true rfl)⟩)) (fun r5 hw => ?_)
    have hw : r5 = (k_go g) := hw
    subst r5
    refine lv_if_le (tgt := 17) hx hb d_TO_badnessOfExcess_10 (by decide) (fun c_6 => ?_) (fun c_6 => ?_)
    · refine lv_lload_n hx hb d_TO_badnessOfExcess_17 rfl (lv_at hl 1 rfl) ?_
      refine lv_aload_n hx hb d_TO_badnessOfExcess_18 rfl (lv_at hl 0 rfl) ?_
      refine pz_get (ci := 3) (C := "PageMaker$Totals") (T := T_TO) (N := 4) hx hb htb in_TO hown hK hP ht hf rfl 0 (by decide) (htb _ tw_96) (fun _ h9 => h9) rfl d_TO_badnessOfExcess_19 ?_
      refine lv_iconst (v := 0) hx hb d_TO_badnessOfExcess_22 (by decide) ?_
      have hin7 : vp_in 0 4 := vp_in_nI (n := 0) (N := 4) (by decide) (by decide)
      refine pz_lald hx hb hK hP 1 hs hg rfl hin7 d_TO_badnessOfExcess_23 ?_
      refine lv_topl (fun x8 (ex8 : x8 = g 0) => ?_)
      subst ex8
      refine vp_callSi (va_Run.run (va_runSN (As := [.long ex, .long (g 0)]) (rest := []) ⟨hx, hb, hml, hown, hts⟩ (c_PM_badnessOf l ex (g 0)) ⟨va_cnB 2 hts (tb_good tw_428) rfl rfl rfl (hz.1 _ tn_426) (htb _ tw_1) (by decide +kernel) ⟨(Nat.le_of_ble_eq_true rfl), (Nat.le_of_ble_eq_true rfl)⟩, htb _ tw_427, trivial⟩ pz_preP rfl rfl hl.1 rfl (lv_room (Nat.le_of_ble_eq_true rfl)) d_TO_badnessOfExcess_24 ⟨(Nat.le_of_ble_eq_true rfl), (Nat.le_of_ble_eq_true rfl)⟩)) (fun r9 hw => ?_)
      have hw : r9 = (k_bad ex (g 0)) := hw
      subst r9
      exact pz_iretS hx hb hr rfl hlocks (by rw [k_boe, if_pos c_1, if_neg (i32_nlt c_6)]) d_TO_badnessOfExcess_27
    · refine lv_iconst (v := 0) hx hb d_TO_badnessOfExcess_13 (by decide) ?_
      refine lv_goto (tgt := 27) hx hb d_TO_badnessOfExcess_14 (by decide) ?_
      exact pz_iretS hx hb hr rfl hlocks (by rw [k_boe, if_pos c_1, if_pos (i32_lt c_6)]) d_TO_badnessOfExcess_27
set_option maxHeartbeats 4000000 in
set_option maxRecDepth 100000 in
/-- EndedPage.shareOf(t) -/
theorem c_EP_shareOf (l : Launch) (G : gG) (L : List Nat) (f : Nat → va_E) (sz : Nat) (q fr t sa : Nat) (i1 i2 i3 i4 i5 i6 : Int32) (j1 j2 len dep shr : Int64) (g : Nat → Int64) (hq : q ∈ L) (hf : f q = .inr (9, [.ref fr, .int i1, .int i2, .int i3, .int i4, .int i5, .long j1, .int i6, .long j2])) (ht : t ∈ L) (hft : f t = .inr (3, [.ref sa, .long len, .long dep, .long shr])) (hs : sa ∈ L) (hg : f sa = .inl (cJ G, 4, .inr (.inl g))) (h6 : vp_in i6 4) : sJ l y_EP_shareOf w_EP_shareOf ({ frames := 1, cells := 0, slots := 0, locals := 40 }) G L f sz [.ref q, .ref t] (fun r => r = if 0 < j1 then k_prop (g i6.toNatClampNeg) j1 j2 else -k_prop shr (if j2 < -j1 then j2 else -j1) j2) := by
  refine pz_met (cc := prog_3_method_3_code) (maxL := 2) (ret := (some .long)) (by decide) rfl (Nat.le_of_ble_eq_true rfl) ?_
  intro p e s m below meth c ls hx hb hr hml hts hown hlocks hin hsz hK hP hD hS hA hz hl
  have htb : ∀ w ∈ TB, w.before _ s = true := fun w h => hts w (List.mem_cons_of_mem _ h)
  have hl : lv_has ls 2 [(0, .ref q), (1, .ref t)] := hl
  refine lv_aload_n hx hb d_EP_shareOf_0 rfl (lv_at hl 0 rfl) ?_
  refine pz_get (ci := 9) (C := "PageMaker$EndedPage") (T := T_EP) (N := 9) hx hb htb in_EP hown hK hP hq hf rfl 6 (by decide) (htb _ tw_500) (fun _ h9 => h9) rfl d_EP_shareOf_1 ?_
  refine lv_lconst (v := 0) hx hb d_EP_shareOf_4 rfl ?_
  refine pz_lle (tgt := 30) hx hb d_EP_shareOf_5 d_EP_shareOf_6 (by decide) (fun c_1 => ?_) (fun c_1 => ?_)
  · refine lv_aload_n hx hb d_EP_shareOf_30 rfl (lv_at hl 1 rfl) ?_
    refine pz_get (ci := 3) (C := "PageMaker$Totals") (T := T_TO) (N := 4) hx hb htb in_TO hown hK hP ht hft rfl 3 (by decide) (htb _ tw_109) (fun _ h9 => h9) rfl d_EP_shareOf_31 ?_
    refine lv_aload_n hx hb d_EP_shareOf_34 rfl (lv_at hl 0 rfl) ?_
    refine pz_get (ci := 9) (C := "PageMaker$EndedPage") (T := T_EP) (N := 9) hx hb htb in_EP hown hK hP hq hf rfl 6 (by decide) (htb _ tw_500) (fun _ h9 => h9) rfl d_EP_shareOf_35 ?_
    refine lv_lneg hx hb d_EP_shareOf_38 ?_
    refine lv_aload_n hx hb d_EP_shareOf_39 rfl (lv_at hl 0 rfl) ?_
    refine pz_get (ci := 9) (C := "PageMaker$EndedPage") (T := T_EP) (N := 9) hx hb htb in_EP hown hK hP hq hf rfl 8 (by decide) (htb _ tw_504) (fun _ h9 => h9) rfl d_EP_shareOf_40 ?_
    refine va_mmin_long hx hb (hml.trans hl.1.symm) hown (htb _ tw_652) (htb _ tw_653) (htb _ tw_17) (htb _ tw_654) (Nat.le_of_ble_eq_true rfl) (Nat.le_of_ble_eq_true rfl) (Nat.le_of_ble_eq_true rfl) (Nat.le_of_ble_eq_true rfl) d_EP_shareOf_43 ?_
    refine lv_aload_n hx hb d_EP_shareOf_46 rfl (lv_at hl 0 rfl) ?_
    refine pz_get (ci := 9) (C := "PageMaker$EndedPage") (T := T_EP) (N := 9) hx hb htb in_EP hown hK hP hq hf rfl 8 (by decide) (htb _ tw_504) (fun _ h9 => h9) rfl d_EP_shareOf_47 ?_
    refine vp_callSl (va_Run.run (va_runSN (As := [.long shr, .long (if j2 < (-j1) then j2 else (-j1)), .long j2]) (rest := []) ⟨hx, hb, hml, hown, hts⟩ (c_PM_proportion l shr (if j2 < (-j1) then j2 else (-j1)) j2) ⟨va_cnB 3 hts (tb_good tw_649) rfl rfl rfl (hz.1 _ tn_647) (htb _ tw_1) (by decide +kernel) ⟨(Nat.le_of_ble_eq_true rfl), (Nat.le_of_ble_eq_true rfl)⟩, htb _ tw_648, trivial⟩ pz_preP rfl rfl hl.1 rfl (lv_room (Nat.le_of_ble_eq_true rfl)) d_EP_shareOf_50 ⟨(Nat.le_of_ble_eq_true rfl), (Nat.le_of_ble_eq_true rfl)⟩)) (fun r2 hw => ?_)
    have hw : r2 = (k_prop shr (if j2 < (-j1) then j2 else (-j1)) j2) := hw
    subst r2
    refine lv_lneg hx hb d_EP_shareOf_53 ?_
    exact pz_lretS hx hb hr hlocks (by rw [if_neg (k_nlt c_1)]) d_EP_shareOf_54
  · refine lv_aload_n hx hb d_EP_shareOf_9 rfl (lv_at hl 1 rfl) ?_
    refine pz_get (ci := 3) (C := "PageMaker$Totals") (T := T_TO) (N := 4) hx hb htb in_TO hown hK hP ht hft rfl 0 (by decide) (htb _ tw_97) (fun _ h9 => h9) rfl d_EP_shareOf_10 ?_
    refine lv_aload_n hx hb d_EP_shareOf_13 rfl (lv_at hl 0 rfl) ?_
    refine pz_get (ci := 9) (C := "PageMaker$EndedPage") (T := T_EP) (N := 9) hx hb htb in_EP hown hK hP hq hf rfl 7 (by decide) (htb _ tw_502) (fun _ h9 => h9) rfl d_EP_shareOf_14 ?_
    have hin3 : vp_in i6 4 := h6
    refine pz_lald hx hb hK hP 1 hs hg rfl hin3 d_EP_shareOf_17 ?_
    refine lv_aload_n hx hb d_EP_shareOf_18 rfl (lv_at hl 0 rfl) ?_
    refine pz_get (ci := 9) (C := "PageMaker$EndedPage") (T := T_EP) (N := 9) hx hb htb in_EP hown hK hP hq hf rfl 6 (by decide) (htb _ tw_500) (fun _ h9 => h9) rfl d_EP_shareOf_19 ?_
    refine lv_aload_n hx hb d_EP_shareOf_22 rfl (lv_at hl 0 rfl) ?_
    refine pz_get (ci := 9) (C := "PageMaker$EndedPage") (T := T_EP) (N := 9) hx hb htb in_EP hown hK hP hq hf rfl 8 (by decide) (htb _ tw_504) (fun _ h9 => h9) rfl d_EP_shareOf_23 ?_
    refine vp_callSl (va_Run.run (va_runSN (As := [.long (g i6.toNatClampNeg), .long j1, .long j2]) (rest := []) ⟨hx, hb, hml, hown, hts⟩ (c_PM_proportion l (g i6.toNatClampNeg) j1 j2) ⟨va_cnB 3 hts (tb_good tw_649) rfl rfl rfl (hz.1 _ tn_647) (htb _ tw_1) (by decide +kernel) ⟨(Nat.le_of_ble_eq_true rfl), (Nat.le_of_ble_eq_true rfl)⟩, htb _ tw_648, trivial⟩ pz_preP rfl rfl hl.1 rfl (lv_room (Nat.le_of_ble_eq_true rfl)) d_EP_shareOf_26 ⟨(Nat.le_of_ble_eq_true rfl), (Nat.le_of_ble_eq_true rfl)⟩)) (fun r4 hw => ?_)
    have hw : r4 = (k_prop (g i6.toNatClampNeg) j1 j2) := hw
    subst r4
    exact pz_lretS hx hb hr hlocks (by rw [if_pos c_1]) d_EP_shareOf_29
end
section
/-! new arrays in the pool; small pure pictures of what items add -/
section PZF
variable {p : Program} {l : Launch} {e : Env} {R : Room} {s : State} {m : MethodId} {args : Array Value} {below : List Frame} {meth : Method} {c : Code} {H : Heap} {locs : List Loc} {cells slots : Nat} {Q : State → Prop}
variable {cc : ByteArray} {pc : Nat} {ls : Array Slot} {rest : List Value} {D : va_G} {cl : List vw_C} {A : Nat → Prop} {tys : List (ClassId × FieldType)} {X : va_W} {L : List Nat} {f : Nat → va_E} {H0 : Heap}
theorem pz_newl (hexec : p.tables.exec = Jvm.exec) (hb : c.code = cc) (harr : (Cond.arrayClass .long).before args s = true) (hK : va_K D cl tys s) (hP : va_P D cl (X ++ va_pl L f) H) (hD : va_D A (X ++ va_pl L f)) (hS : va_S A H0 H locs) (hA : ∀ q, H0.size ≤ q → A q) (t0 : Nat) {cL : ClassId} (ht : tys[t0]? = some (cL, .long))
    {n : Int32} (N' : Nat) (hn : ¬ n < 0) (hN : n.toNatClampNeg = N') (hbytes : N' * componentBytes .long ≤ 536870912) (hcells : cells + 1 ≤ R.cells) (hslots : slots + N' ≤ R.slots) (hdg : decode cc pc = .ok (.newarray .long, 2))
    (kk : ∀ (q : Nat) (L1 : List Nat) (f1 : Nat → va_E) (H1 : Heap), q ∉ L → L1 = L ++ [q] → f1 = va_up f q (.inl (cL, N', .inr (.inl (fun _ => 0)))) → va_P D cl (X ++ va_pl L1 f1) H1 → va_D A (X ++ va_pl L1 f1) → va_S A H0 H1 locs →
      W p l e R s m args below meth c H1 locs (cells + 1) (slots + N') Q (F0 m (pc + 2) ls (.ref q :: rest))) : W p l e R s m args below meth c H locs cells slots Q (F0 m pc ls (.int n :: rest)) := by
  refine va_newa (atype := .long) (ty := .long) (a0 := (N', .inr (.inl (fun _ => 0)))) hexec hb harr rfl hK hP hD hS hA (fun cA => rfl) hn hN hbytes hcells hslots hdg (fun q cA H1 hK1 hP1 hD1 hS1 => ?_)
  have h1 : s.vm.findClass ("[" ++ FieldType.long.toString) = some cA := (hK1.2 tys.length (cA, .long) (by rw [List.getElem?_append_right (Nat.le_refl _), Nat.sub_self]; rfl)).2
  have h2 : s.vm.findClass ("[" ++ FieldType.long.toString) = some cL := (hK.2 t0 (cL, .long) ht).2
  have h3 : cA = cL := Option.some.inj (h1.symm.trans h2)
  subst h3
  have hq : q ∉ L := va_pl_fresh2 hD1
  rw [pz_push hq] at hP1 hD1
  exact kk q _ _ H1 hq rfl rfl hP1 hD1 hS1
theorem pz_newo (hexec : p.tables.exec = Jvm.exec) (hb : c.code = cc) {own C : String} {index : Nat} (hown : s.vm.findClass own = some m.cls) (hclink : (Cond.classLink own index C).before args s = true) (hover : va_AO C s) (hK : va_K D cl tys s) (hP : va_P D cl (X ++ va_pl L f) H) (hD : va_D A (X ++ va_pl L f)) (hS : va_S A H0 H locs) (hA : ∀ q, H0.size ≤ q → A q) (t0 : Nat) {cL : ClassId} (ht : tys[t0]? = some (cL, .object C))
    {n : Int32} (N' : Nat) (hn : ¬ n < 0) (hN : n.toNatClampNeg = N') (hbytes : N' * 4 ≤ 536870912) (hcells : cells + 1 ≤ R.cells) (hslots : slots + N' ≤ R.slots) (hdg : decode cc pc = .ok (.anewarray index, 3))
    (kk : ∀ (q : Nat) (L1 : List Nat) (f1 : Nat → va_E) (H1 : Heap), q ∉ L → L1 = L ++ [q] → f1 = va_up f q (.inl (cL, N', .inr (.inr (.inr (.inr (fun _ => none)))))) → va_P D cl (X ++ va_pl L1 f1) H1 → va_D A (X ++ va_pl L1 f1) → va_S A H0 H1 locs →
      W p l e R s m args below meth c H1 locs (cells + 1) (slots + N') Q (F0 m (pc + 3) ls (.ref q :: rest))) : W p l e R s m args below meth c H locs cells slots Q (F0 m pc ls (.int n :: rest)) := by
  refine va_newq hexec hb hown hclink hover hK hP hD hS hA hn hN hbytes hcells hslots hdg (fun q cA H1 hK1 hP1 hD1 hS1 => ?_)
  have h1 := (hK1.2 tys.length (cA, .object C) (by rw [List.getElem?_append_right (Nat.le_refl _), Nat.sub_self]; rfl)).2
  have h2 := (hK.2 t0 (cL, .object C) ht).2
  obtain ⟨_, _, _, _, _, h1⟩ := h1
  obtain ⟨_, _, _, _, _, h2⟩ := h2
  have h3 : cA = cL := Option.some.inj (h1.symm.trans h2)
  subst h3
  have hq : q ∉ L := va_pl_fresh2 hD1
  rw [pz_push hq] at hP1 hD1
  exact kk q _ _ H1 hq rfl rfl hP1 hD1 hS1
theorem pz_alen (hexec : p.tables.exec = Jvm.exec) (hb : c.code = cc) (hK : va_K D cl tys s) (hP : va_P D cl (X ++ va_pl L f) H) (t0 : Nat) {a : Nat} {cA : ClassId} {C : FieldType} {n : Nat} {x : (Nat → Int32) ⊕ (Nat → Int64) ⊕ (Nat → UInt32) ⊕ (Nat → UInt64) ⊕ (Nat → Option Nat)} (ha : a ∈ L) (hf : f a = .inl (cA, n, x)) (ht : tys[t0]? = some (cA, C)) (hdg : decode cc pc = .ok (.arraylength, 1))
    (kk : W p l e R s m args below meth c H locs cells slots Q (F0 m (pc + 1) ls (.int (nI n) :: rest))) : W p l e R s m args below meth c H locs cells slots Q (F0 m pc ls (.ref a :: rest)) := by
  obtain ⟨q0, he⟩ := pz_at (X := X) ha hf
  have h1 := hP q0 _ he
  have h2 := (hK.2 t0 _ ht).1
  rcases x with x | x | x | x | x <;>
    exact W.alen hexec hb h1 (h2 n _) (by show (arrV _ _ _).slots.size.toInt32 = nI n; rw [arrV_size]; rfl) rfl rfl hdg kk
end PZF
/-- the top glue's width -/
def k_top (t h : Int32) : Int64 := if (0 : Int64) < t.toInt64 - h.toInt64 then t.toInt64 - h.toInt64 else 0
/-- a box's depth, cut -/
def k_dep (d g : Int32) : Int64 := (if g < d then g else d).toInt64
theorem k_in4 {o : Int32} (h : vp_in o 4) : ¬ o < 0 ∧ ¬ 4 ≤ o := by
  obtain ⟨h1, h2⟩ := vp_in_iff.mp h
  rw [Int32.lt_iff_toInt_lt, Int32.le_iff_toInt_le, Int32.toInt_zero, show (4 : Int32).toInt = 4 by decide]
  omega
end
section
/-! constructors of items and totals; what items add -/
theorem pz_nec {f : Nat → va_E} {a b i j : Nat} {x y : List Value} (ha : f a = .inr (i, x)) (hb : f b = .inr (j, y)) (h : i ≠ j) : a ≠ b := fun e => by
  rw [e, hb] at ha
  exact h (congrArg Prod.fst (Sum.inr.inj ha)).symm
theorem pz_nef {q a : Nat} {L : List Nat} (hn : q ∉ L) (ha : a ∈ L) : q ≠ a := fun e => hn (e ▸ ha)
theorem pz_nea {f : Nat → va_E} {a b : Nat} {x : ClassId × vp_A} {y : Nat × List Value} (ha : f a = .inl x) (hb : f b = .inr y) : a ≠ b := fun e => by
  rw [e, hb] at ha
  cases ha
set_option maxHeartbeats 4000000 in
set_option maxRecDepth 100000 in
/-- Item() -/
theorem c_IT_init (l : Launch) (G : gG) (L : List Nat) (f : Nat → va_E) (sz : Nat) (q : Nat) : mV l y_IT_init w_IT_init ({ frames := 1, cells := 0, slots := 0, locals := 20 }) G L f sz [.ref q] 0 0 (fun u => u = (L, f)) := by
  refine pz_met (cc := prog_6_method_1_code) (maxL := 1) (ret := none) (by decide) rfl (Nat.le_of_ble_eq_true rfl) ?_
  intro p e s m below meth c ls hx hb hr hml hts hown hlocks hin hsz hK hP hD hS hA hz hl
  have htb : ∀ w ∈ TB, w.before _ s = true := fun w h => hts w (List.mem_cons_of_mem _ h)
  have hl : lv_has ls 1 [(0, .ref q)] := hl
  refine lv_aload_n hx hb d_IT_init_0 rfl (lv_at hl 0 rfl) ?_
  refine W.objInit hx hb hown (htb _ tw_306) (htb _ tw_33) (htb _ tw_34) rfl (by rw [hml]; exact hl.1) rfl d_IT_init_1 (Nat.le_of_ble_eq_true rfl) (Nat.le_of_ble_eq_true rfl) ?_
  refine W.eq (g2 := F0 m 4 ls []) rfl ?_
  exact pz_vret hx hb hr hlocks hK hP hD hS (Nat.le_of_ble_eq_true rfl) (Nat.le_of_ble_eq_true rfl) rfl d_IT_init_4
set_option maxHeartbeats 4000000 in
set_option maxRecDepth 100000 in
/-- PageMaker$Box(..) -/
theorem c_BX_init (l : Launch) (G : gG) (L : List Nat) (f : Nat → va_E) (sz : Nat) (q : Nat) (o0 o1 b0 b1 : Int32) (hq : q ∈ L) (hf : f q = .inr (5, [.int o0, .int o1])) : mV l y_BX_init w_BX_init ({ frames := 2, cells := 0, slots := 0, locals := 40 }) G L f sz [.ref q, .int b0, .int b1] 0 0 (fun u => u = (L, va_up f q (.inr (5, [.int b0, .int b1])))) := by
  refine pz_met (cc := prog_2_method_1_code) (maxL := 3) (ret := none) (by decide) rfl (Nat.le_of_ble_eq_true rfl) ?_
  intro p e s m below meth c ls hx hb hr hml hts hown hlocks hin hsz hK hP hD hS hA hz hl
  have htb : ∀ w ∈ TB, w.before _ s = true := fun w h => hts w (List.mem_cons_of_mem _ h)
  have hl : lv_has ls 3 [(0, .ref q), (1, .int b0), (2, .int b1)] := hl
  refine lv_aload_n hx hb d_BX_init_0 rfl (lv_at hl 0 rfl) ?_
  refine pz_cv (va_runIN (As := []) (rest := []) ⟨hx, hb, hml, hown, hts⟩ (c_IT_init l G L f _ q) ⟨va_cnB 0 hts (tb_good tw_305) rfl rfl rfl (hz.1 _ tn_303) (htb _ tw_14) (by decide +kernel) ⟨(Nat.le_of_ble_eq_true rfl), (Nat.le_of_ble_eq_true rfl)⟩, rfl, htb _ tw_304⟩ (pz_pre (zz_ok _ _ _) hK hP hD hS hA hz) rfl rfl hl.1 rfl (lv_room (Nat.le_of_ble_eq_true rfl)) d_BX_init_1 ⟨(Nat.le_of_ble_eq_true rfl), (Nat.le_of_ble_eq_true rfl)⟩) hP hD hS hA (fun L2 f1 H locs hw hP hD hS => ?_)
  have ef1 : f1 = f := (Prod.mk.inj hw).2
  have eL2 : L2 = L := (Prod.mk.inj hw).1
  subst L2
  subst f1
  refine lv_aload_n hx hb d_BX_init_4 rfl (lv_at hl 0 rfl) ?_
  refine lv_iload_n hx hb d_BX_init_5 rfl (lv_at hl 1 rfl) ?_
  refine pz_putF (ci := 5) (v := .int b0) (ty := .int) (C := "PageMaker$Box") (T := T_BX) (N := 2) hx hb htb in_BX ty_BX to_BX nm_BX hown hK hP hD hS hq hf rfl 0 (by decide) (htb _ tw_307) (fun _ h9 => h9) rfl hin rfl rfl rfl rfl (Nat.le_of_ble_eq_true rfl) d_BX_init_6 (fun f3 H locs ef3 hP hD hS => ?_)
  have ef3 : f3 = va_up f q (.inr (5, [.int b0, .int o1])) := ef3
  refine lv_aload_n hx hb d_BX_init_9 rfl (lv_at hl 0 rfl) ?_
  refine lv_iload_n hx hb d_BX_init_10 rfl (lv_at hl 2 rfl) ?_
  have h_4 : f3 q = .inr (5, [.int b0, .int o1]) := by rw [ef3]; exact va_up_self _ _ _
  refine pz_putF (ci := 5) (v := .int b1) (ty := .int) (C := "PageMaker$Box") (T := T_BX) (N := 2) hx hb htb in_BX ty_BX to_BX nm_BX hown hK hP hD hS hq h_4 rfl 1 (by decide) (htb _ tw_310) (fun _ h9 => h9) rfl hin rfl rfl rfl rfl (Nat.le_of_ble_eq_true rfl) d_BX_init_11 (fun f5 H locs ef5 hP hD hS => ?_)
  have ef5 : f5 = va_up f3 q (.inr (5, [.int b0, .int b1])) := ef5
  exact pz_vret hx hb hr hlocks hK hP hD hS (Nat.le_of_ble_eq_true rfl) (Nat.le_of_ble_eq_true rfl) (by rw [ef5, ef3, bx_uu]) d_BX_init_14
set_option maxHeartbeats 4000000 in
set_option maxRecDepth 100000 in
/-- PageMaker$Glue(..) -/
theorem c_GL_init (l : Launch) (G : gG) (L : List Nat) (f : Nat → va_E) (sz : Nat) (q : Nat) (o0 o1 o2 o3 b0 b1 b2 b3 : Int32) (hq : q ∈ L) (hf : f q = .inr (6, [.int o0, .int o1, .int o2, .int o3])) : mV l y_GL_init w_GL_init ({ frames := 2, cells := 0, slots := 0, locals := 40 }) G L f sz [.ref q, .int b0, .int b1, .int b2, .int b3] 0 0 (fun u => u = (L, va_up f q (.inr (6, [.int b0, .int b1, .int b2, .int b3])))) := by
  refine pz_met (cc := prog_5_method_1_code) (maxL := 5) (ret := none) (by decide) rfl (Nat.le_of_ble_eq_true rfl) ?_
  intro p e s m below meth c ls hx hb hr hml hts hown hlocks hin hsz hK hP hD hS hA hz hl
  have htb : ∀ w ∈ TB, w.before _ s = true := fun w h => hts w (List.mem_cons_of_mem _ h)
  have hl : lv_has ls 5 [(0, .ref q), (1, .int b0), (2, .int b1), (3, .int b2), (4, .int b3)] := hl
  refine lv_aload_n hx hb d_GL_init_0 rfl (lv_at hl 0 rfl) ?_
  refine pz_cv (va_runIN (As := []) (rest := []) ⟨hx, hb, hml, hown, hts⟩ (c_IT_init l G L f _ q) ⟨va_cnB 0 hts (tb_good tw_305) rfl rfl rfl (hz.1 _ tn_553) (htb _ tw_14) (by decide +kernel) ⟨(Nat.le_of_ble_eq_true rfl), (Nat.le_of_ble_eq_true rfl)⟩, rfl, htb _ tw_304⟩ (pz_pre (zz_ok _ _ _) hK hP hD hS hA hz) rfl rfl hl.1 rfl (lv_room (Nat.le_of_ble_eq_true rfl)) d_GL_init_1 ⟨(Nat.le_of_ble_eq_true rfl), (Nat.le_of_ble_eq_true rfl)⟩) hP hD hS hA (fun L2 f1 H locs hw hP hD hS => ?_)
  have ef1 : f1 = f := (Prod.mk.inj hw).2
  have eL2 : L2 = L := (Prod.mk.inj hw).1
  subst L2
  subst f1
  refine lv_aload_n hx hb d_GL_init_4 rfl (lv_at hl 0 rfl) ?_
  refine lv_iload_n hx hb d_GL_init_5 rfl (lv_at hl 1 rfl) ?_
  refine pz_putF (ci := 6) (v := .int b0) (ty := .int) (C := "PageMaker$Glue") (T := T_GL) (N := 4) hx hb htb in_GL ty_GL to_GL nm_GL hown hK hP hD hS hq hf rfl 0 (by decide) (htb _ tw_554) (fun _ h9 => h9) rfl hin rfl rfl rfl rfl (Nat.le_of_ble_eq_true rfl) d_GL_init_6 (fun f3 H locs ef3 hP hD hS => ?_)
  have ef3 : f3 = va_up f q (.inr (6, [.int b0, .int o1, .int o2, .int o3])) := ef3
  refine lv_aload_n hx hb d_GL_init_9 rfl (lv_at hl 0 rfl) ?_
  refine lv_iload_n hx hb d_GL_init_10 rfl (lv_at hl 2 rfl) ?_
  have h_4 : f3 q = .inr (6, [.int b0, .int o1, .int o2, .int o3]) := by rw [ef3]; exact va_up_self _ _ _
  refine pz_putF (ci := 6) (v := .int b1) (ty := .int) (C := "PageMaker$Glue") (T := T_GL) (N := 4) hx hb htb in_GL ty_GL to_GL nm_GL hown hK hP hD hS hq h_4 rfl 1 (by decide) (htb _ tw_555) (fun _ h9 => h9) rfl hin rfl rfl rfl rfl (Nat.le_of_ble_eq_true rfl) d_GL_init_11 (fun f5 H locs ef5 hP hD hS => ?_)
  have ef5 : f5 = va_up f3 q (.inr (6, [.int b0, .int b1, .int o2, .int o3])) := ef5
  refine lv_aload_n hx hb d_GL_init_14 rfl (lv_at hl 0 rfl) ?_
  refine lv_iload_n hx hb d_GL_init_15 rfl (lv_at hl 3 rfl) ?_
  have h_6 : f5 q = .inr (6, [.int b0, .int b1, .int o2, .int o3]) := by rw [ef5]; exact va_up_self _ _ _
  refine pz_putF (ci := 6) (v := .int b2) (ty := .int) (C := "PageMaker$Glue") (T := T_GL) (N := 4) hx hb htb in_GL ty_GL to_GL nm_GL hown hK hP hD hS hq h_6 rfl 2 (by decide) (htb _ tw_556) (fun _ h9 => h9) rfl hin rfl rfl rfl rfl (Nat.le_of_ble_eq_true rfl) d_GL_init_16 (fun f7 H locs ef7 hP hD hS => ?_)
  have ef7 : f7 = va_up f5 q (.inr (6, [.int b0, .int b1, .int b2, .int o3])) := ef7
  refine lv_aload_n hx hb d_GL_init_19 rfl (lv_at hl 0 rfl) ?_
  refine lv_iload hx hb d_GL_init_20 (lv_at hl 4 rfl) ?_
  have h_8 : f7 q = .inr (6, [.int b0, .int b1, .int b2, .int o3]) := by rw [ef7]; exact va_up_self _ _ _
  refine pz_putF (ci := 6) (v := .int b3) (ty := .int) (C := "PageMaker$Glue") (T := T_GL) (N := 4) hx hb htb in_GL ty_GL to_GL nm_GL hown hK hP hD hS hq h_8 rfl 3 (by decide) (htb _ tw_557) (fun _ h9 => h9) rfl hin rfl rfl rfl rfl (Nat.le_of_ble_eq_true rfl) d_GL_init_22 (fun f9 H locs ef9 hP hD hS => ?_)
  have ef9 : f9 = va_up f7 q (.inr (6, [.int b0, .int b1, .int b2, .int b3])) := ef9
  exact pz_vret hx hb hr hlocks hK hP hD hS (Nat.le_of_ble_eq_true rfl) (Nat.le_of_ble_eq_true rfl) (by rw [ef9, ef7, ef5, ef3, bx_uu, bx_uu, bx_uu]) d_GL_init_25
set_option maxHeartbeats 4000000 in
set_option maxRecDepth 100000 in
/-- PageMaker$Kern(..) -/
theorem c_KE_init (l : Launch) (G : gG) (L : List Nat) (f : Nat → va_E) (sz : Nat) (q : Nat) (o0 b0 : Int32) (hq : q ∈ L) (hf : f q = .inr (7, [.int o0])) : mV l y_KE_init w_KE_init ({ frames := 2, cells := 0, slots := 0, locals := 40 }) G L f sz [.ref q, .int b0] 0 0 (fun u => u = (L, va_up f q (.inr (7, [.int b0])))) := by
  refine pz_met (cc := prog_7_method_1_code) (maxL := 2) (ret := none) (by decide) rfl (Nat.le_of_ble_eq_true rfl) ?_
  intro p e s m below meth c ls hx hb hr hml hts hown hlocks hin hsz hK hP hD hS hA hz hl
  have htb : ∀ w ∈ TB, w.before _ s = true := fun w h => hts w (List.mem_cons_of_mem _ h)
  have hl : lv_has ls 2 [(0, .ref q), (1, .int b0)] := hl
  refine lv_aload_n hx hb d_KE_init_0 rfl (lv_at hl 0 rfl) ?_
  refine pz_cv (va_runIN (As := []) (rest := []) ⟨hx, hb, hml, hown, hts⟩ (c_IT_init l G L f _ q) ⟨va_cnB 0 hts (tb_good tw_305) rfl rfl rfl (hz.1 _ tn_579) (htb _ tw_14) (by decide +kernel) ⟨(Nat.le_of_ble_eq_true rfl), (Nat.le_of_ble_eq_true rfl)⟩, rfl, htb _ tw_304⟩ (pz_pre (zz_ok _ _ _) hK hP hD hS hA hz) rfl rfl hl.1 rfl (lv_room (Nat.le_of_ble_eq_true rfl)) d_KE_init_1 ⟨(Nat.le_of_ble_eq_true rfl), (Nat.le_of_ble_eq_true rfl)⟩) hP hD hS hA (fun L2 f1 H locs hw hP hD hS => ?_)
  have ef1 : f1 = f := (Prod.mk.inj hw).2
  have eL2 : L2 = L := (Prod.mk.inj hw).1
  subst L2
  subst f1
  refine lv_aload_n hx hb d_KE_init_4 rfl (lv_at hl 0 rfl) ?_
  refine lv_iload_n hx hb d_KE_init_5 rfl (lv_at hl 1 rfl) ?_
  refine pz_putF (ci := 7) (v := .int b0) (ty := .int) (C := "PageMaker$Kern") (T := T_KE) (N := 1) hx hb htb in_KE ty_KE to_KE nm_KE hown hK hP hD hS hq hf rfl 0 (by decide) (htb _ tw_580) (fun _ h9 => h9) rfl hin rfl rfl rfl rfl (Nat.le_of_ble_eq_true rfl) d_KE_init_6 (fun f3 H locs ef3 hP hD hS => ?_)
  have ef3 : f3 = va_up f q (.inr (7, [.int b0])) := ef3
  exact pz_vret hx hb hr hlocks hK hP hD hS (Nat.le_of_ble_eq_true rfl) (Nat.le_of_ble_eq_true rfl) (by rw [ef3]) d_KE_init_9
set_option maxHeartbeats 4000000 in
set_option maxRecDepth 100000 in
/-- PageMaker$Penalty(..) -/
theorem c_PE_init (l : Launch) (G : gG) (L : List Nat) (f : Nat → va_E) (sz : Nat) (q : Nat) (o0 b0 : Int32) (hq : q ∈ L) (hf : f q = .inr (8, [.int o0])) : mV l y_PE_init w_PE_init ({ frames := 2, cells := 0, slots := 0, locals := 40 }) G L f sz [.ref q, .int b0] 0 0 (fun u => u = (L, va_up f q (.inr (8, [.int b0])))) := by
  refine pz_met (cc := prog_9_method_1_code) (maxL := 2) (ret := none) (by decide) rfl (Nat.le_of_ble_eq_true rfl) ?_
  intro p e s m below meth c ls hx hb hr hml hts hown hlocks hin hsz hK hP hD hS hA hz hl
  have htb : ∀ w ∈ TB, w.before _ s = true := fun w h => hts w (List.mem_cons_of_mem _ h)
  have hl : lv_has ls 2 [(0, .ref q), (1, .int b0)] := hl
  refine lv_aload_n hx hb d_PE_init_0 rfl (lv_at hl 0 rfl) ?_
  refine pz_cv (va_runIN (As := []) (rest := []) ⟨hx, hb, hml, hown, hts⟩ (c_IT_init l G L f _ q) ⟨va_cnB 0 hts (tb_good tw_305) rfl rfl rfl (hz.1 _ tn_597) (htb _ tw_14) (by decide +kernel) ⟨(Nat.le_of_ble_eq_true rfl), (Nat.le_of_ble_eq_true rfl)⟩, rfl, htb _ tw_304⟩ (pz_pre (zz_ok _ _ _) hK hP hD hS hA hz) rfl rfl hl.1 rfl (lv_room (Nat.le_of_ble_eq_true rfl)) d_PE_init_1 ⟨(Nat.le_of_ble_eq_true rfl), (Nat.le_of_ble_eq_true rfl)⟩) hP hD hS hA (fun L2 f1 H locs hw hP hD hS => ?_)
  have ef1 : f1 = f := (Prod.mk.inj hw).2
  have eL2 : L2 = L := (Prod.mk.inj hw).1
  subst L2
  subst f1
  refine lv_aload_n hx hb d_PE_init_4 rfl (lv_at hl 0 rfl) ?_
  refine lv_iload_n hx hb d_PE_init_5 rfl (lv_at hl 1 rfl) ?_
  refine pz_putF (ci := 8) (v := .int b0) (ty := .int) (C := "PageMaker$Penalty") (T := T_PE) (N := 1) hx hb htb in_PE ty_PE to_PE nm_PE hown hK hP hD hS hq hf rfl 0 (by decide) (htb _ tw_598) (fun _ h9 => h9) rfl hin rfl rfl rfl rfl (Nat.le_of_ble_eq_true rfl) d_PE_init_6 (fun f3 H locs ef3 hP hD hS => ?_)
  have ef3 : f3 = va_up f q (.inr (8, [.int b0])) := ef3
  exact pz_vret hx hb hr hlocks hK hP hD hS (Nat.le_of_ble_eq_true rfl) (Nat.le_of_ble_eq_true rfl) (by rw [ef3]) d_PE_init_9
set_option maxHeartbeats 4000000 in
set_option maxRecDepth 100000 in
/-- Totals.addTopGlue(fr, bx) -/
theorem c_TO_addTopGlue (l : Launch) (G : gG) (L : List Nat) (f : Nat → va_E) (sz : Nat) (t sa fr bx : Nat) (len dep shr : Int64) (g0 g1 g2 b0 b1 : Int32) (ht : t ∈ L) (hf : f t = .inr (3, [.ref sa, .long len, .long dep, .long shr])) (hr9 : fr ∈ L) (hfr : f fr = .inr (1, [.int g0, .int g1, .int g2])) (hx9 : bx ∈ L) (hbx : f bx = .inr (5, [.int b0, .int b1])) : mV l y_TO_addTopGlue w_TO_addTopGlue ({ frames := 1, cells := 0, slots := 0, locals := 40 }) G L f sz [.ref t, .ref fr, .ref bx] 0 0 (fun u => u = (L, va_up f t (.inr (3, [.ref sa, .long (len + (dep + k_top g1 b0)), .long 0, .long shr])))) := by
  refine pz_met (cc := prog_10_method_2_code) (maxL := 3) (ret := none) (by decide) rfl (Nat.le_of_ble_eq_true rfl) ?_
  intro p e s m below meth c ls hx hb hr hml hts hown hlocks hin hsz hK hP hD hS hA hz hl
  have htb : ∀ w ∈ TB, w.before _ s = true := fun w h => hts w (List.mem_cons_of_mem _ h)
  have hl : lv_has ls 3 [(0, .ref t), (1, .ref fr), (2, .ref bx)] := hl
  refine lv_aload_n hx hb d_TO_addTopGlue_0 rfl (lv_at hl 0 rfl) ?_
  refine lv_aload_n hx hb d_TO_addTopGlue_1 rfl (lv_at hl 1 rfl) ?_
  refine pz_get (ci := 1) (C := "PageMaker$Frame") (T := T_FR) (N := 3) hx hb htb in_FR hown hK hP hr9 hfr rfl 1 (by decide) (htb _ tw_74) (fun _ h9 => h9) rfl d_TO_addTopGlue_2 ?_
  refine lv_i2l hx hb d_TO_addTopGlue_5 rfl ?_
  refine lv_aload_n hx hb d_TO_addTopGlue_6 rfl (lv_at hl 2 rfl) ?_
  refine pz_get (ci := 5) (C := "PageMaker$Box") (T := T_BX) (N := 2) hx hb htb in_BX hown hK hP hx9 hbx rfl 0 (by decide) (htb _ tw_308) (fun _ h9 => h9) rfl d_TO_addTopGlue_7 ?_
  refine lv_i2l hx hb d_TO_addTopGlue_10 rfl ?_
  refine lv_lsub hx hb d_TO_addTopGlue_11 ?_
  refine lv_lconst (v := 0) hx hb d_TO_addTopGlue_12 rfl ?_
  refine va_mmax_long hx hb (hml.trans hl.1.symm) hown (htb _ tw_458) (htb _ tw_459) (htb _ tw_17) (htb _ tw_460) (Nat.le_of_ble_eq_true rfl) (Nat.le_of_ble_eq_true rfl) (Nat.le_of_ble_eq_true rfl) (Nat.le_of_ble_eq_true rfl) d_TO_addTopGlue_13 ?_
  refine pz_cv (va_runV (As := [.long (k_top g1 b0)]) (rest := []) ⟨hx, hb, hml, hown, hts⟩ (c_TO_addSpace l G L f _ t sa len dep shr (k_top g1 b0) ht hf) (cwV 1 hts (tb_V tw_461 tw_462 tw_463 tw_7 tw_464) rfl rfl rfl (by decide +kernel) ⟨(Nat.le_of_ble_eq_true rfl), (Nat.le_of_ble_eq_true rfl)⟩) (pz_preV (zz_ok _ _ _) hK hP hD hS hA hz (ci := 3) rfl rfl ht hf) rfl rfl hl.1 rfl (lv_room (Nat.le_of_ble_eq_true rfl)) d_TO_addTopGlue_16 ⟨(Nat.le_of_ble_eq_true rfl), (Nat.le_of_ble_eq_true rfl)⟩) hP hD hS hA (fun L2 f1 H locs hw hP hD hS => ?_)
  have ef1 : f1 = va_up (f) t (.inr (3, [.ref sa, .long (len + (dep + k_top g1 b0)), .long 0, .long shr])) := (Prod.mk.inj hw).2
  have eL2 : L2 = L := (Prod.mk.inj hw).1
  subst L2
  exact pz_vret hx hb hr hlocks hK hP hD hS (Nat.le_of_ble_eq_true rfl) (Nat.le_of_ble_eq_true rfl) (by rw [ef1]) d_TO_addTopGlue_19
set_option maxHeartbeats 4000000 in
set_option maxRecDepth 100000 in
/-- Box.addTo(t, fr) -/
theorem c_BX_addTo (l : Launch) (G : gG) (L : List Nat) (f : Nat → va_E) (sz : Nat) (q t sa fr : Nat) (len dep shr : Int64) (g0 g1 g2 b0 b1 : Int32) (hq : q ∈ L) (hfq : f q = .inr (5, [.int b0, .int b1])) (ht : t ∈ L) (hf : f t = .inr (3, [.ref sa, .long len, .long dep, .long shr])) (hr9 : fr ∈ L) (hfr : f fr = .inr (1, [.int g0, .int g1, .int g2])) : mV l y_BX_addTo w_BX_addTo ({ frames := 1, cells := 0, slots := 0, locals := 40 }) G L f sz [.ref q, .ref t, .ref fr] 0 0 (fun u => u = (L, va_up f t (.inr (3, [.ref sa, .long (len + (dep + b0.toInt64) + (b1.toInt64 - k_dep b1 g2)), .long (k_dep b1 g2), .long shr])))) := by
  refine pz_met (cc := prog_2_method_2_code) (maxL := 3) (ret := none) (by decide) rfl (Nat.le_of_ble_eq_true rfl) ?_
  intro p e s m below meth c ls hx hb hr hml hts hown hlocks hin hsz hK hP hD hS hA hz hl
  have htb : ∀ w ∈ TB, w.before _ s = true := fun w h => hts w (List.mem_cons_of_mem _ h)
  have hl : lv_has ls 3 [(0, .ref q), (1, .ref t), (2, .ref fr)] := hl
  refine lv_aload_n hx hb d_BX_addTo_0 rfl (lv_at hl 1 rfl) ?_
  refine lv_dup hx hb d_BX_addTo_1 rfl ?_
  refine pz_get (ci := 3) (C := "PageMaker$Totals") (T := T_TO) (N := 4) hx hb htb in_TO hown hK hP ht hf rfl 1 (by decide) (htb _ tw_102) (fun _ h9 => h9) rfl d_BX_addTo_2 ?_
  refine lv_aload_n hx hb d_BX_addTo_5 rfl (lv_at hl 1 rfl) ?_
  refine pz_get (ci := 3) (C := "PageMaker$Totals") (T := T_TO) (N := 4) hx hb htb in_TO hown hK hP ht hf rfl 2 (by decide) (htb _ tw_106) (fun _ h9 => h9) rfl d_BX_addTo_6 ?_
  refine lv_aload_n hx hb d_BX_addTo_9 rfl (lv_at hl 0 rfl) ?_
  refine pz_get (ci := 5) (C := "PageMaker$Box") (T := T_BX) (N := 2) hx hb htb in_BX hown hK hP hq hfq rfl 0 (by decide) (htb _ tw_307) (fun _ h9 => h9) rfl d_BX_addTo_10 ?_
  refine lv_i2l hx hb d_BX_addTo_13 rfl ?_
  refine lv_ladd hx hb d_BX_addTo_14 ?_
  refine lv_ladd hx hb d_BX_addTo_15 ?_
  refine pz_put (ci := 3) (v := .long (len + (dep + b0.toInt64))) (ty := .long) (C := "PageMaker$Totals") (T := T_TO) (N := 4) hx hb htb in_TO ty_TO to_TO nm_TO hown hK hP hD hS ht hf rfl 1 (by decide) (htb _ tw_102) (fun _ h9 => h9) rfl rfl rfl rfl (Nat.le_of_ble_eq_true rfl) d_BX_addTo_16 (fun f1 H locs ef1 hP hD hS => ?_)
  have ef1 : f1 = va_up f t (.inr (3, [.ref sa, .long (len + (dep + b0.toInt64)), .long dep, .long shr])) := ef1
  refine lv_aload_n hx hb d_BX_addTo_19 rfl (lv_at hl 1 rfl) ?_
  refine lv_aload_n hx hb d_BX_addTo_20 rfl (lv_at hl 0 rfl) ?_
  have h_2 : f1 q = .inr (5, [.int b0, .int b1]) := by rw [ef1, va_up_ne _ _ (pz_nec hfq hf (by decide))]; exact hfq
  refine pz_get (ci := 5) (C := "PageMaker$Box") (T := T_BX) (N := 2) hx hb htb in_BX hown hK hP hq h_2 rfl 1 (by decide) (htb _ tw_310) (fun _ h9 => h9) rfl d_BX_addTo_21 ?_
  refine lv_aload_n hx hb d_BX_addTo_24 rfl (lv_at hl 2 rfl) ?_
  have h_3 : f1 fr = .inr (1, [.int g0, .int g1, .int g2]) := by rw [ef1, va_up_ne _ _ (pz_nec hfr hf (by decide))]; exact hfr
  refine pz_get (ci := 1) (C := "PageMaker$Frame") (T := T_FR) (N := 3) hx hb htb in_FR hown hK hP hr9 h_3 rfl 2 (by decide) (htb _ tw_76) (fun _ h9 => h9) rfl d_BX_addTo_25 ?_
  refine va_mmin hx hb (hml.trans hl.1.symm) hown (htb _ tw_471) (htb _ tw_374) (htb _ tw_17) (htb _ tw_375) (Nat.le_of_ble_eq_true rfl) (Nat.le_of_ble_eq_true rfl) (Nat.le_of_ble_eq_true rfl) (Nat.le_of_ble_eq_true rfl) d_BX_addTo_28 ?_
  refine lv_i2l hx hb d_BX_addTo_31 rfl ?_
  have h_4 : f1 t = .inr (3, [.ref sa, .long (len + (dep + b0.toInt64)), .long dep, .long shr]) := by rw [ef1]; exact va_up_self _ _ _
  refine pz_put (ci := 3) (v := .long ((if g2 < b1 then g2 else b1).toInt64)) (ty := .long) (C := "PageMaker$Totals") (T := T_TO) (N := 4) hx hb htb in_TO ty_TO to_TO nm_TO hown hK hP hD hS ht h_4 rfl 2 (by decide) (htb _ tw_106) (fun _ h9 => h9) rfl rfl rfl rfl (Nat.le_of_ble_eq_true rfl) d_BX_addTo_32 (fun f5 H locs ef5 hP hD hS => ?_)
  have ef5 : f5 = va_up f1 t (.inr (3, [.ref sa, .long (len + (dep + b0.toInt64)), .long ((if g2 < b1 then g2 else b1).toInt64), .long shr])) := ef5
  refine lv_aload_n hx hb d_BX_addTo_35 rfl (lv_at hl 1 rfl) ?_
  refine lv_dup hx hb d_BX_addTo_36 rfl ?_
  have h_6 : f5 t = .inr (3, [.ref sa, .long (len + (dep + b0.toInt64)), .long ((if g2 < b1 then g2 else b1).toInt64), .long shr]) := by rw [ef5]; exact va_up_self _ _ _
  refine pz_get (ci := 3) (C := "PageMaker$Totals") (T := T_TO) (N := 4) hx hb htb in_TO hown hK hP ht h_6 rfl 1 (by decide) (htb _ tw_102) (fun _ h9 => h9) rfl d_BX_addTo_37 ?_
  refine lv_aload_n hx hb d_BX_addTo_40 rfl (lv_at hl 0 rfl) ?_
  have h_7 : f5 q = .inr (5, [.int b0, .int b1]) := by rw [ef5, va_up_ne _ _ (pz_nec hfq hf (by decide))]; exact h_2
  refine pz_get (ci := 5) (C := "PageMaker$Box") (T := T_BX) (N := 2) hx hb htb in_BX hown hK hP hq h_7 rfl 1 (by decide) (htb _ tw_310) (fun _ h9 => h9) rfl d_BX_addTo_41 ?_
  refine lv_i2l hx hb d_BX_addTo_44 rfl ?_
  refine lv_aload_n hx hb d_BX_addTo_45 rfl (lv_at hl 1 rfl) ?_
  refine pz_get (ci := 3) (C := "PageMaker$Totals") (T := T_TO) (N := 4) hx hb htb in_TO hown hK hP ht h_6 rfl 2 (by decide) (htb _ tw_106) (fun _ h9 => h9) rfl d_BX_addTo_46 ?_
  refine lv_lsub hx hb d_BX_addTo_49 ?_
  refine lv_ladd hx hb d_BX_addTo_50 ?_
  refine pz_put (ci := 3) (v := .long ((len + (dep + b0.toInt64)) + (b1.toInt64 - (if g2 < b1 then g2 else b1).toInt64))) (ty := .long) (C := "PageMaker$Totals") (T := T_TO) (N := 4) hx hb htb in_TO ty_TO to_TO nm_TO hown hK hP hD hS ht h_6 rfl 1 (by decide) (htb _ tw_102) (fun _ h9 => h9) rfl rfl rfl rfl (Nat.le_of_ble_eq_true rfl) d_BX_addTo_51 (fun f8 H locs ef8 hP hD hS => ?_)
  have ef8 : f8 = va_up f5 t (.inr (3, [.ref sa, .long ((len + (dep + b0.toInt64)) + (b1.toInt64 - (if g2 < b1 then g2 else b1).toInt64)), .long ((if g2 < b1 then g2 else b1).toInt64), .long shr])) := ef8
  exact pz_vret hx hb hr hlocks hK hP hD hS (Nat.le_of_ble_eq_true rfl) (Nat.le_of_ble_eq_true rfl) (by rw [ef8, ef5, ef1, bx_uu, bx_uu]; rfl) d_BX_addTo_54
set_option maxHeartbeats 4000000 in
set_option maxRecDepth 100000 in
/-- Glue.addTo(t, fr) -/
theorem c_GL_addTo (l : Launch) (G : gG) (L : List Nat) (f : Nat → va_E) (sz : Nat) (q t sa fr : Nat) (len dep shr : Int64) (gg : Nat → Int64) (g0 g1 g2 b0 b1 b2 b3 : Int32) (hq : q ∈ L) (hfq : f q = .inr (6, [.int b0, .int b1, .int b2, .int b3])) (ht : t ∈ L) (hf : f t = .inr (3, [.ref sa, .long len, .long dep, .long shr])) (hr9 : fr ∈ L) (hfr : f fr = .inr (1, [.int g0, .int g1, .int g2])) (hs9 : sa ∈ L) (hsa : f sa = .inl (cJ G, 4, .inr (.inl gg))) (h4 : vp_in b2 4) : mV l y_GL_addTo w_GL_addTo ({ frames := 1, cells := 0, slots := 0, locals := 22 }) G L f sz [.ref q, .ref t, .ref fr] 0 0 (fun u => u = (L, va_up (va_up f t (.inr (3, [.ref sa, .long (len + (dep + b0.toInt64)), .long 0, .long (shr + b3.toInt64)]))) sa (.inl (cJ G, 4, .inr (.inl (vp_updL gg b2.toNatClampNeg (gg b2.toNatClampNeg + b1.toInt64))))))) := by
  refine pz_met (cc := prog_5_method_2_code) (maxL := 3) (ret := none) (by decide) rfl (Nat.le_of_ble_eq_true rfl) ?_
  intro p e s m below meth c ls hx hb hr hml hts hown hlocks hin hsz hK hP hD hS hA hz hl
  have htb : ∀ w ∈ TB, w.before _ s = true := fun w h => hts w (List.mem_cons_of_mem _ h)
  have hl : lv_has ls 3 [(0, .ref q), (1, .ref t), (2, .ref fr)] := hl
  refine lv_aload_n hx hb d_GL_addTo_0 rfl (lv_at hl 1 rfl) ?_
  refine lv_aload_n hx hb d_GL_addTo_1 rfl (lv_at hl 0 rfl) ?_
  refine pz_get (ci := 6) (C := "PageMaker$Glue") (T := T_GL) (N := 4) hx hb htb in_GL hown hK hP hq hfq rfl 0 (by decide) (htb _ tw_554) (fun _ h9 => h9) rfl d_GL_addTo_2 ?_
  refine lv_i2l hx hb d_GL_addTo_5 rfl ?_
  refine pz_cv (va_runV (As := [.long b0.toInt64]) (rest := []) ⟨hx, hb, hml, hown, hts⟩ (c_TO_addSpace l G L f _ t sa len dep shr b0.toInt64 ht hf) (cwV 1 hts (tb_V tw_475 tw_462 tw_463 tw_7 tw_464) rfl rfl rfl (by decide +kernel) ⟨(Nat.le_of_ble_eq_true rfl), (Nat.le_of_ble_eq_true rfl)⟩) (pz_preV (zz_ok _ _ _) hK hP hD hS hA hz (ci := 3) rfl rfl ht hf) rfl rfl hl.1 rfl (lv_room (Nat.le_of_ble_eq_true rfl)) d_GL_addTo_6 ⟨(Nat.le_of_ble_eq_true rfl), (Nat.le_of_ble_eq_true rfl)⟩) hP hD hS hA (fun L2 f1 H locs hw hP hD hS => ?_)
  have ef1 : f1 = va_up (f) t (.inr (3, [.ref sa, .long (len + (dep + b0.toInt64)), .long 0, .long shr])) := (Prod.mk.inj hw).2
  have eL2 : L2 = L := (Prod.mk.inj hw).1
  subst L2
  refine lv_aload_n hx hb d_GL_addTo_9 rfl (lv_at hl 1 rfl) ?_
  refine lv_dup hx hb d_GL_addTo_10 rfl ?_
  have h_3 : f1 t = .inr (3, [.ref sa, .long (len + (dep + b0.toInt64)), .long 0, .long shr]) := by rw [ef1]; exact va_up_self _ _ _
  refine pz_get (ci := 3) (C := "PageMaker$Totals") (T := T_TO) (N := 4) hx hb htb in_TO hown hK hP ht h_3 rfl 3 (by decide) (htb _ tw_110) (fun _ h9 => h9) rfl d_GL_addTo_11 ?_
  refine lv_aload_n hx hb d_GL_addTo_14 rfl (lv_at hl 0 rfl) ?_
  have h_4 : f1 q = .inr (6, [.int b0, .int b1, .int b2, .int b3]) := by rw [ef1, va_up_ne _ _ (pz_nec hfq hf (by decide))]; exact hfq
  refine pz_get (ci := 6) (C := "PageMaker$Glue") (T := T_GL) (N := 4) hx hb htb in_GL hown hK hP hq h_4 rfl 3 (by decide) (htb _ tw_557) (fun _ h9 => h9) rfl d_GL_addTo_15 ?_
  refine lv_i2l hx hb d_GL_addTo_18 rfl ?_
  refine lv_ladd hx hb d_GL_addTo_19 ?_
  refine pz_put (ci := 3) (v := .long (shr + b3.toInt64)) (ty := .long) (C := "PageMaker$Totals") (T := T_TO) (N := 4) hx hb htb in_TO ty_TO to_TO nm_TO hown hK hP hD hS ht h_3 rfl 3 (by decide) (htb _ tw_110) (fun _ h9 => h9) rfl rfl rfl rfl (Nat.le_of_ble_eq_true rfl) d_GL_addTo_20 (fun f5 H locs ef5 hP hD hS => ?_)
  have ef5 : f5 = va_up f1 t (.inr (3, [.ref sa, .long (len + (dep + b0.toInt64)), .long 0, .long (shr + b3.toInt64)])) := ef5
  refine lv_aload_n hx hb d_GL_addTo_23 rfl (lv_at hl 0 rfl) ?_
  have h_6 : f5 q = .inr (6, [.int b0, .int b1, .int b2, .int b3]) := by rw [ef5, va_up_ne _ _ (pz_nec hfq hf (by decide))]; exact h_4
  refine pz_get (ci := 6) (C := "PageMaker$Glue") (T := T_GL) (N := 4) hx hb htb in_GL hown hK hP hq h_6 rfl 2 (by decide) (htb _ tw_556) (fun _ h9 => h9) rfl d_GL_addTo_24 ?_
  refine lv_if_lt (tgt := 55) hx hb d_GL_addTo_27 (by decide) (fun c_7 => ?_) (fun c_7 => ?_)
  · exact absurd c_7 (k_in4 h4).1
  · refine lv_aload_n hx hb d_GL_addTo_30 rfl (lv_at hl 0 rfl) ?_
    refine pz_get (ci := 6) (C := "PageMaker$Glue") (T := T_GL) (N := 4) hx hb htb in_GL hown hK hP hq h_6 rfl 2 (by decide) (htb _ tw_556) (fun _ h9 => h9) rfl d_GL_addTo_31 ?_
    refine lv_iconst (v := 4) hx hb d_GL_addTo_34 (by decide) ?_
    refine lv_icmp_ge (tgt := 55) hx hb d_GL_addTo_35 (by decide) (fun c_8 => ?_) (fun c_8 => ?_)
    · exact absurd c_8 (k_in4 h4).2
    · refine lv_aload_n hx hb d_GL_addTo_38 rfl (lv_at hl 1 rfl) ?_
      have h_9 : f5 t = .inr (3, [.ref sa, .long (len + (dep + b0.toInt64)), .long 0, .long (shr + b3.toInt64)]) := by rw [ef5]; exact va_up_self _ _ _
      refine pz_get (ci := 3) (C := "PageMaker$Totals") (T := T_TO) (N := 4) hx hb htb in_TO hown hK hP ht h_9 rfl 0 (by decide) (htb _ tw_98) (fun _ h9 => h9) rfl d_GL_addTo_39 ?_
      refine lv_aload_n hx hb d_GL_addTo_42 rfl (lv_at hl 0 rfl) ?_
      refine pz_get (ci := 6) (C := "PageMaker$Glue") (T := T_GL) (N := 4) hx hb htb in_GL hown hK hP hq h_6 rfl 2 (by decide) (htb _ tw_556) (fun _ h9 => h9) rfl d_GL_addTo_43 ?_
      refine lv_dup2_11 hx hb d_GL_addTo_46 rfl rfl ?_
      have h_11 : f1 sa = .inl (cJ G, 4, .inr (.inl gg)) := by rw [ef1, va_up_ne _ _ (pz_nea hsa hf)]; exact hsa
      have h_10 : f5 sa = .inl (cJ G, 4, .inr (.inl gg)) := by rw [ef5, va_up_ne _ _ (pz_nea hsa hf)]; exact h_11
      have hin12 : vp_in b2 4 := h4
      refine pz_lald hx hb hK hP 1 hs9 h_10 rfl hin12 d_GL_addTo_47 ?_
      refine lv_aload_n hx hb d_GL_addTo_48 rfl (lv_at hl 0 rfl) ?_
      refine pz_get (ci := 6) (C := "PageMaker$Glue") (T := T_GL) (N := 4) hx hb htb in_GL hown hK hP hq h_6 rfl 1 (by decide) (htb _ tw_555) (fun _ h9 => h9) rfl d_GL_addTo_49 ?_
      refine lv_i2l hx hb d_GL_addTo_52 rfl ?_
      refine lv_ladd hx hb d_GL_addTo_53 ?_
      have hin13 : vp_in b2 4 := h4
      refine pz_last hx hb hK hP hD hS 1 hs9 h_10 rfl hin13 d_GL_addTo_54 (fun f14 H locs ef14 hP hD hS => ?_)
      exact pz_vret hx hb hr hlocks hK hP hD hS (Nat.le_of_ble_eq_true rfl) (Nat.le_of_ble_eq_true rfl) (by rw [ef14, ef5, ef1, bx_uu]) d_GL_addTo_55
set_option maxHeartbeats 4000000 in
set_option maxRecDepth 100000 in
/-- Kern.addTo(t, fr) -/
theorem c_KE_addTo (l : Launch) (G : gG) (L : List Nat) (f : Nat → va_E) (sz : Nat) (q t sa fr : Nat) (len dep shr : Int64) (b0 : Int32) (hq : q ∈ L) (hfq : f q = .inr (7, [.int b0])) (ht : t ∈ L) (hf : f t = .inr (3, [.ref sa, .long len, .long dep, .long shr])) : mV l y_KE_addTo w_KE_addTo ({ frames := 1, cells := 0, slots := 0, locals := 22 }) G L f sz [.ref q, .ref t, .ref fr] 0 0 (fun u => u = (L, va_up f t (.inr (3, [.ref sa, .long (len + (dep + b0.toInt64)), .long 0, .long shr])))) := by
  refine pz_met (cc := prog_7_method_2_code) (maxL := 3) (ret := none) (by decide) rfl (Nat.le_of_ble_eq_true rfl) ?_
  intro p e s m below meth c ls hx hb hr hml hts hown hlocks hin hsz hK hP hD hS hA hz hl
  have htb : ∀ w ∈ TB, w.before _ s = true := fun w h => hts w (List.mem_cons_of_mem _ h)
  have hl : lv_has ls 3 [(0, .ref q), (1, .ref t), (2, .ref fr)] := hl
  refine lv_aload_n hx hb d_KE_addTo_0 rfl (lv_at hl 1 rfl) ?_
  refine lv_aload_n hx hb d_KE_addTo_1 rfl (lv_at hl 0 rfl) ?_
  refine pz_get (ci := 7) (C := "PageMaker$Kern") (T := T_KE) (N := 1) hx hb htb in_KE hown hK hP hq hfq rfl 0 (by decide) (htb _ tw_580) (fun _ h9 => h9) rfl d_KE_addTo_2 ?_
  refine lv_i2l hx hb d_KE_addTo_5 rfl ?_
  refine pz_cv (va_runV (As := [.long b0.toInt64]) (rest := []) ⟨hx, hb, hml, hown, hts⟩ (c_TO_addSpace l G L f _ t sa len dep shr b0.toInt64 ht hf) (cwV 1 hts (tb_V tw_479 tw_462 tw_463 tw_7 tw_464) rfl rfl rfl (by decide +kernel) ⟨(Nat.le_of_ble_eq_true rfl), (Nat.le_of_ble_eq_true rfl)⟩) (pz_preV (zz_ok _ _ _) hK hP hD hS hA hz (ci := 3) rfl rfl ht hf) rfl rfl hl.1 rfl (lv_room (Nat.le_of_ble_eq_true rfl)) d_KE_addTo_6 ⟨(Nat.le_of_ble_eq_true rfl), (Nat.le_of_ble_eq_true rfl)⟩) hP hD hS hA (fun L2 f1 H locs hw hP hD hS => ?_)
  have ef1 : f1 = va_up (f) t (.inr (3, [.ref sa, .long (len + (dep + b0.toInt64)), .long 0, .long shr])) := (Prod.mk.inj hw).2
  have eL2 : L2 = L := (Prod.mk.inj hw).1
  subst L2
  exact pz_vret hx hb hr hlocks hK hP hD hS (Nat.le_of_ble_eq_true rfl) (Nat.le_of_ble_eq_true rfl) (by rw [ef1]) d_KE_addTo_9
set_option maxHeartbeats 4000000 in
set_option maxRecDepth 100000 in
/-- Penalty.addTo(t, fr) -/
theorem c_PE_addTo (l : Launch) (G : gG) (L : List Nat) (f : Nat → va_E) (sz : Nat) (q t fr : Nat) : mV l y_PE_addTo w_PE_addTo ({ frames := 0, cells := 0, slots := 0, locals := 0 }) G L f sz [.ref q, .ref t, .ref fr] 0 0 (fun u => u = (L, f)) := by
  refine pz_met (cc := prog_9_method_2_code) (maxL := 3) (ret := none) (by decide) rfl (Nat.le_of_ble_eq_true rfl) ?_
  intro p e s m below meth c ls hx hb hr hml hts hown hlocks hin hsz hK hP hD hS hA hz hl
  have htb : ∀ w ∈ TB, w.before _ s = true := fun w h => hts w (List.mem_cons_of_mem _ h)
  have hl : lv_has ls 3 [(0, .ref q), (1, .ref t), (2, .ref fr)] := hl
  exact pz_vret hx hb hr hlocks hK hP hD hS (Nat.le_of_ble_eq_true rfl) (Nat.le_of_ble_eq_true rfl) rfl d_PE_addTo_0
set_option maxHeartbeats 4000000 in
set_option maxRecDepth 100000 in
/-- Totals() -/
theorem c_TO_init (l : Launch) (G : gG) (L : List Nat) (f : Nat → va_E) (sz : Nat) (q : Nat) (a0 a1 a2 : Int64) (hq : q ∈ L) (hf : f q = .inr (3, [.null, .long a0, .long a1, .long a2])) : mV l y_TO_init w_TO_init ({ frames := 1, cells := 1, slots := 4, locals := 20 }) G L f sz [.ref q] 1 4 (fun u => ∃ sa, sa ∉ L ∧ u = (L ++ [sa], va_up (va_up f sa (.inl (cJ G, 4, .inr (.inl (fun _ => 0))))) q (.inr (3, [.ref sa, .long 0, .long 0, .long 0])))) := by
  refine pz_met (cc := prog_10_method_1_code) (maxL := 1) (ret := none) (by decide) rfl (Nat.le_of_ble_eq_true rfl) ?_
  intro p e s m below meth c ls hx hb hr hml hts hown hlocks hin hsz hK hP hD hS hA hz hl
  have htb : ∀ w ∈ TB, w.before _ s = true := fun w h => hts w (List.mem_cons_of_mem _ h)
  have hl : lv_has ls 1 [(0, .ref q)] := hl
  refine lv_aload_n hx hb d_TO_init_0 rfl (lv_at hl 0 rfl) ?_
  refine W.objInit hx hb hown (htb _ tw_95) (htb _ tw_33) (htb _ tw_34) rfl (by rw [hml]; exact hl.1) rfl d_TO_init_1 (Nat.le_of_ble_eq_true rfl) (Nat.le_of_ble_eq_true rfl) ?_
  refine W.eq (g2 := F0 m 4 ls []) rfl ?_
  refine lv_aload_n hx hb d_TO_init_4 rfl (lv_at hl 0 rfl) ?_
  refine lv_iconst (v := 4) hx hb d_TO_init_5 (by decide) ?_
  refine pz_newl hx hb (htb _ tw_121) hK hP hD hS hA 1 rfl 4 (by decide) (by decide) (by decide) (Nat.le_of_ble_eq_true rfl) (Nat.le_of_ble_eq_true rfl) d_TO_init_6 (fun q1 L2 f3 H hnq1 eL2 ef3 hP hD hS => ?_)
  subst L2
  have h_4 : f3 q = .inr (3, [.null, .long a0, .long a1, .long a2]) := by rw [ef3, va_up_ne _ _ (Ne.symm (pz_nef hnq1 hq))]; exact hf
  refine pz_putF (ci := 3) (v := .ref q1) (ty := .array .long) (C := "PageMaker$Totals") (T := T_TO) (N := 4) hx hb htb in_TO ty_TO to_TO nm_TO hown hK hP hD hS (List.mem_append_left _ hq) h_4 rfl 0 (by decide) (htb _ tw_96) (fun _ h9 => h9) rfl hin rfl rfl rfl rfl (Nat.le_of_ble_eq_true rfl) d_TO_init_8 (fun f5 H locs ef5 hP hD hS => ?_)
  have ef5 : f5 = va_up f3 q (.inr (3, [.ref q1, .long a0, .long a1, .long a2])) := ef5
  refine lv_aload_n hx hb d_TO_init_11 rfl (lv_at hl 0 rfl) ?_
  refine lv_lconst (v := 0) hx hb d_TO_init_12 rfl ?_
  have h_6 : f5 q = .inr (3, [.ref q1, .long a0, .long a1, .long a2]) := by rw [ef5]; exact va_up_self _ _ _
  refine pz_put (ci := 3) (v := .long 0) (ty := .long) (C := "PageMaker$Totals") (T := T_TO) (N := 4) hx hb htb in_TO ty_TO to_TO nm_TO hown hK hP hD hS (List.mem_append_left _ hq) h_6 rfl 1 (by decide) (htb _ tw_100) (fun _ h9 => h9) rfl rfl rfl rfl (Nat.le_of_ble_eq_true rfl) d_TO_init_13 (fun f7 H locs ef7 hP hD hS => ?_)
  have ef7 : f7 = va_up f5 q (.inr (3, [.ref q1, .long 0, .long a1, .long a2])) := ef7
  refine lv_aload_n hx hb d_TO_init_16 rfl (lv_at hl 0 rfl) ?_
  refine lv_lconst (v := 0) hx hb d_TO_init_17 rfl ?_
  have h_8 : f7 q = .inr (3, [.ref q1, .long 0, .long a1, .long a2]) := by rw [ef7]; exact va_up_self _ _ _
  refine pz_put (ci := 3) (v := .long 0) (ty := .long) (C := "PageMaker$Totals") (T := T_TO) (N := 4) hx hb htb in_TO ty_TO to_TO nm_TO hown hK hP hD hS (List.mem_append_left _ hq) h_8 rfl 2 (by decide) (htb _ tw_105) (fun _ h9 => h9) rfl rfl rfl rfl (Nat.le_of_ble_eq_true rfl) d_TO_init_18 (fun f9 H locs ef9 hP hD hS => ?_)
  have ef9 : f9 = va_up f7 q (.inr (3, [.ref q1, .long 0, .long 0, .long a2])) := ef9
  refine lv_aload_n hx hb d_TO_init_21 rfl (lv_at hl 0 rfl) ?_
  refine lv_lconst (v := 0) hx hb d_TO_init_22 rfl ?_
  have h_10 : f9 q = .inr (3, [.ref q1, .long 0, .long 0, .long a2]) := by rw [ef9]; exact va_up_self _ _ _
  refine pz_put (ci := 3) (v := .long 0) (ty := .long) (C := "PageMaker$Totals") (T := T_TO) (N := 4) hx hb htb in_TO ty_TO to_TO nm_TO hown hK hP hD hS (List.mem_append_left _ hq) h_10 rfl 3 (by decide) (htb _ tw_108) (fun _ h9 => h9) rfl rfl rfl rfl (Nat.le_of_ble_eq_true rfl) d_TO_init_23 (fun f11 H locs ef11 hP hD hS => ?_)
  have ef11 : f11 = va_up f9 q (.inr (3, [.ref q1, .long 0, .long 0, .long 0])) := ef11
  exact pz_vret hx hb hr hlocks hK hP hD hS (Nat.le_of_ble_eq_true rfl) (Nat.le_of_ble_eq_true rfl) ⟨q1, hnq1, by rw [ef11, ef9, ef7, ef5, ef3, bx_uu, bx_uu, bx_uu]⟩ d_TO_init_26
end
section
/-! THE STATE in pure words: items, totals, open and ended pages -/
/-- an item: box (height, depth), glue (width, stretch, order, shrink), kern (width), penalty -/
abbrev It : Type := (Int32 × Int32) ⊕ (Int32 × Int32 × Int32 × Int32) ⊕ Int32 ⊕ Int32
def itE (it : It) : va_E := match it with
  | .inl (a, b) => .inr (5, [.int a, .int b])
  | .inr (.inl (a, b, o, d)) => .inr (6, [.int a, .int b, .int o, .int d])
  | .inr (.inr (.inl a)) => .inr (7, [.int a])
  | .inr (.inr (.inr a)) => .inr (8, [.int a])
def itOK (it : It) : Prop := match it with
  | .inr (.inl (_, _, o, _)) => vp_in o 4
  | _ => True
/-- length, depth, shrink, stretch -/
abbrev Tt : Type := Int64 × Int64 × Int64 × (Nat → Int64)
def t_0 : Tt := (0, 0, 0, fun _ => 0)
def t_sp (x : Int64) (T : Tt) : Tt := (T.1 + (T.2.1 + x), 0, T.2.2.1, T.2.2.2)
def t_add (it : It) (g : Int32) (T : Tt) : Tt := match it with
  | .inl (a, b) => (T.1 + (T.2.1 + a.toInt64) + (b.toInt64 - k_dep b g), k_dep b g, T.2.2.1, T.2.2.2)
  | .inr (.inl (a, b, o, d)) => (T.1 + (T.2.1 + a.toInt64), 0, T.2.2.1 + d.toInt64, vp_updL T.2.2.2 o.toNatClampNeg (T.2.2.2 o.toNatClampNeg + b.toInt64))
  | .inr (.inr (.inl a)) => t_sp a.toInt64 T
  | .inr (.inr (.inr _)) => T
def toE (sa : Nat) (T : Tt) : va_E := .inr (3, [.ref sa, .long T.1, .long T.2.1, .long T.2.2.1])
def saE (G : gG) (T : Tt) : va_E := .inl (cJ G, 4, .inr (.inl T.2.2.2))
/-- height, top, greatest depth -/
abbrev Fr : Type := Int32 × Int32 × Int32
def frE (F : Fr) : va_E := .inr (1, [.int F.1, .int F.2.1, .int F.2.2])
/-- first, length before the last, best item, best cost, best badness, ending item -/
abbrev Op : Type := Int32 × Int64 × Int32 × Int32 × Int32 × Int32
def opE (to fr : Nat) (P : Op) : va_E := .inr (2, [.ref to, .ref fr, .int P.1, .long P.2.1, .int P.2.2.1, .int P.2.2.2.1, .int P.2.2.2.2.1, .int P.2.2.2.2.2])
/-- a break is looked at: its badness and cost, what the page is then, whether it ends -/
def o_bad (T : Tt) (h : Int32) (len : Int64) : Int32 := k_boe T.2.2.2 T.2.2.1 (h.toInt64 - len)
abbrev o_ends (c p : Int32) : Prop := c = 1073741823 ∨ p ≤ (-10000)
def o_best (P : Op) (place b c : Int32) : Op := if c ≤ P.2.2.2.1 then (P.1, P.2.1, place, c, b, P.2.2.2.2.2) else P
def o_end (P : Op) (place : Int32) : Op := (P.1, P.2.1, P.2.2.1, P.2.2.2.1, P.2.2.2.2.1, place)
/-- an ended page: first, best item, cost, badness, ending item, excess, order, total -/
abbrev Pg : Type := Int32 × Int32 × Int32 × Int32 × Int32 × Int64 × Int32 × Int64
def pgE (fr : Nat) (P : Pg) : va_E := .inr (9, [.ref fr, .int P.1, .int P.2.1, .int P.2.2.1, .int P.2.2.2.1, .int P.2.2.2.2.1, .long P.2.2.2.2.2.1, .int P.2.2.2.2.2.2.1, .long P.2.2.2.2.2.2.2])
def k_ord (g : Nat → Int64) (ex : Int64) : Int32 := if 0 < ex then k_go g else 0
def k_tot (g : Nat → Int64) (shr ex : Int64) : Int64 := if 0 < ex then g (k_go g).toNatClampNeg else if ex < 0 then shr else 0
def g_set (P : Op) (h : Int32) (T : Tt) : Pg := (P.1, P.2.2.1, P.2.2.2.1, P.2.2.2.2.1, P.2.2.2.2.2, h.toInt64 - T.1, k_ord T.2.2.2 (h.toInt64 - T.1), k_tot T.2.2.2 T.2.2.1 (h.toInt64 - T.1))
theorem k_go_in (g : Nat → Int64) : vp_in (k_go g) 4 := by
  unfold k_go
  split
  · exact vp_in_nI (n := 3) (N := 4) (by decide) (by decide)
  · split
    · exact vp_in_nI (n := 2) (N := 4) (by decide) (by decide)
    · split
      · exact vp_in_nI (n := 1) (N := 4) (by decide) (by decide)
      · exact vp_in_nI (n := 0) (N := 4) (by decide) (by decide)
theorem k_ord_in (g : Nat → Int64) (ex : Int64) : vp_in (k_ord g ex) 4 := by
  unfold k_ord
  split
  · exact k_go_in g
  · exact vp_in_nI (n := 0) (N := 4) (by decide) (by decide)
theorem mV_mono {l : Launch} {y : MethodName} {ws : List Cond} {rm : Room} {G : gG} {L : List Nat} {f : Nat → va_E} {sz : Nat} {av : List Value} {mc ms : Nat} {p1 p2 : pz_U → Prop} (h : mV l y ws rm G L f sz av mc ms p1) (hp : ∀ u, p1 u → p2 u) : mV l y ws rm G L f sz av mc ms p2 := by
  intro p e ha hc hk s m args below hf happ hpre hK
  obtain ⟨n, o, h1, h2, h3, ⟨⟨⟨u, e1, e2, e3⟩, e4⟩, h5⟩⟩ := h p e ha hc hk s m args below hf happ hpre hK
  exact ⟨n, o, h1, h2, h3, ⟨⟨⟨u, e1, hp u e2, e3⟩, e4⟩, h5⟩⟩
theorem tb_U {c0 c2 : Cond} {own C owner : String} {idx : Nat} {x y : MethodName} (h1 : .methodLink own idx x ∈ TB) (h2 : .sameMethod x.cls owner x.name x.desc ∈ TB) (h3 : .selects C x y ∈ TB) (h4 : .instanceMethod y ∈ TB) (h6 : .initialized y.cls ∈ TB) (h5 : c2 ∈ TB) : GoodIn (c0 :: TB) (va_wsU own idx C owner x y (c2 :: TB)) := tb_gs (fun w h => by
  rcases List.mem_append.mp h with h | h
  · simp only [List.mem_cons, List.not_mem_nil, or_false] at h
    rcases h with rfl | rfl | rfl | rfl | rfl <;> assumption
  · rcases List.mem_cons.mp h with rfl | h <;> assumption)
/-! what items add, in one form: the totals' cell and the row of stretches -/
theorem ad_box (l : Launch) (G : gG) (L : List Nat) (f : Nat → va_E) (sz : Nat) (q t sa fr : Nat) (T : Tt) (F : Fr) (a b : Int32) (hq : q ∈ L) (hfq : f q = itE (.inl (a, b))) (ht : t ∈ L) (hf : f t = toE sa T) (hr9 : fr ∈ L) (hfr : f fr = frE F) (hs9 : sa ∈ L) (hsa : f sa = saE G T) :
    mV l y_BX_addTo w_BX_addTo { frames := 1, cells := 0, slots := 0, locals := 40 } G L f sz [.ref q, .ref t, .ref fr] 0 0 (fun u => u = (L, va_up (va_up f t (toE sa (t_add (.inl (a, b)) F.2.2 T))) sa (saE G (t_add (.inl (a, b)) F.2.2 T)))) :=
  mV_mono (c_BX_addTo l G L f sz q t sa fr T.1 T.2.1 T.2.2.1 F.1 F.2.1 F.2.2 a b hq hfq ht hf hr9 hfr) (fun u h => h.trans (by
    have e : va_up f t (toE sa (t_add (.inl (a, b)) F.2.2 T)) sa = saE G (t_add (.inl (a, b)) F.2.2 T) := by rw [va_up_ne _ _ (pz_nea hsa hf)]; exact hsa
    rw [← e, pz_up_same]
    rfl))
theorem ad_glue (l : Launch) (G : gG) (L : List Nat) (f : Nat → va_E) (sz : Nat) (q t sa fr : Nat) (T : Tt) (F : Fr) (a b o d : Int32) (hq : q ∈ L) (hfq : f q = itE (.inr (.inl (a, b, o, d)))) (ht : t ∈ L) (hf : f t = toE sa T) (hr9 : fr ∈ L) (hfr : f fr = frE F) (hs9 : sa ∈ L) (hsa : f sa = saE G T) (h4 : vp_in o 4) :
    mV l y_GL_addTo w_GL_addTo { frames := 1, cells := 0, slots := 0, locals := 22 } G L f sz [.ref q, .ref t, .ref fr] 0 0 (fun u => u = (L, va_up (va_up f t (toE sa (t_add (.inr (.inl (a, b, o, d))) F.2.2 T))) sa (saE G (t_add (.inr (.inl (a, b, o, d))) F.2.2 T)))) :=
  c_GL_addTo l G L f sz q t sa fr T.1 T.2.1 T.2.2.1 T.2.2.2 F.1 F.2.1 F.2.2 a b o d hq hfq ht hf hr9 hfr hs9 hsa h4
theorem ad_kern (l : Launch) (G : gG) (L : List Nat) (f : Nat → va_E) (sz : Nat) (q t sa fr : Nat) (T : Tt) (F : Fr) (a : Int32) (hq : q ∈ L) (hfq : f q = itE (.inr (.inr (.inl a)))) (ht : t ∈ L) (hf : f t = toE sa T) (hs9 : sa ∈ L) (hsa : f sa = saE G T) :
    mV l y_KE_addTo w_KE_addTo { frames := 1, cells := 0, slots := 0, locals := 22 } G L f sz [.ref q, .ref t, .ref fr] 0 0 (fun u => u = (L, va_up (va_up f t (toE sa (t_add (.inr (.inr (.inl a))) F.2.2 T))) sa (saE G (t_add (.inr (.inr (.inl a))) F.2.2 T)))) :=
  mV_mono (c_KE_addTo l G L f sz q t sa fr T.1 T.2.1 T.2.2.1 a hq hfq ht hf) (fun u h => h.trans (by
    have e : va_up f t (toE sa (t_add (.inr (.inr (.inl a))) F.2.2 T)) sa = saE G (t_add (.inr (.inr (.inl a))) F.2.2 T) := by rw [va_up_ne _ _ (pz_nea hsa hf)]; exact hsa
    rw [← e, pz_up_same]
    rfl))
theorem ad_pen (l : Launch) (G : gG) (L : List Nat) (f : Nat → va_E) (sz : Nat) (q t sa fr : Nat) (T : Tt) (F : Fr) (a : Int32) (hf : f t = toE sa T) (hsa : f sa = saE G T) :
    mV l y_PE_addTo w_PE_addTo { frames := 0, cells := 0, slots := 0, locals := 0 } G L f sz [.ref q, .ref t, .ref fr] 0 0 (fun u => u = (L, va_up (va_up f t (toE sa (t_add (.inr (.inr (.inr a))) F.2.2 T))) sa (saE G (t_add (.inr (.inr (.inr a))) F.2.2 T)))) :=
  mV_mono (c_PE_addTo l G L f sz q t fr) (fun u h => h.trans (by
    show (L, f) = (L, va_up (va_up f t (toE sa T)) sa (saE G T))
    rw [← hf, pz_up_same, ← hsa, pz_up_same]))
end
section
/-! open pages, ended pages: their methods -/
theorem pz_ito {f : Nat → va_E} {a b j : Nat} {it : It} {y : List Value} (ha : f a = itE it) (hb : f b = .inr (j, y)) (h : j < 5) : a ≠ b := by
  rcases it with ⟨ia, ib⟩ | ⟨ia, ib, io, id9⟩ | ia | ia <;> exact pz_nec ha hb (by omega)
set_option maxHeartbeats 4000000 in
set_option maxRecDepth 100000 in
/-- OpenPage.add(q) -/
theorem c_OP_add (l : Launch) (G : gG) (L : List Nat) (f : Nat → va_E) (sz : Nat) (o to sa fr q : Nat) (P : Op) (T : Tt) (F : Fr) (it : It) (ho : o ∈ L) (hfo : f o = opE to fr P) (ht : to ∈ L) (hft : f to = toE sa T) (hs9 : sa ∈ L) (hsa : f sa = saE G T) (hr9 : fr ∈ L) (hfr : f fr = frE F) (hq : q ∈ L) (hfq : f q = itE it) (hok : itOK it) : mV l y_OP_add w_OP_add ({ frames := 2, cells := 0, slots := 0, locals := 62 }) G L f sz [.ref o, .ref q] 0 0 (fun u => u = (L, va_up (va_up (va_up f o (opE to fr (P.1, T.1, P.2.2))) to (toE sa (t_add it F.2.2 T))) sa (saE G (t_add it F.2.2 T)))) := by
  refine pz_met (cc := prog_8_method_4_code) (maxL := 2) (ret := none) (by decide) rfl (Nat.le_of_ble_eq_true rfl) ?_
  intro p e s m below meth c ls hx hb hr hml hts hown hlocks hin hsz hK hP hD hS hA hz hl
  have htb : ∀ w ∈ TB, w.before _ s = true := fun w h => hts w (List.mem_cons_of_mem _ h)
  have hl : lv_has ls 2 [(0, .ref o), (1, .ref q)] := hl
  have hqo : q ≠ o := pz_ito hfq hfo (by decide)
  refine lv_aload_n hx hb d_OP_add_0 rfl (lv_at hl 0 rfl) ?_
  refine lv_aload_n hx hb d_OP_add_1 rfl (lv_at hl 0 rfl) ?_
  refine pz_get (ci := 2) (C := "PageMaker$OpenPage") (T := T_OP) (N := 8) hx hb htb in_OP hown hK hP ho hfo rfl 0 (by decide) (htb _ tw_123) (fun _ h9 => h9) rfl d_OP_add_2 ?_
  refine pz_get (ci := 3) (C := "PageMaker$Totals") (T := T_TO) (N := 4) hx hb htb in_TO hown hK hP ht hft rfl 1 (by decide) (htb _ tw_103) (fun _ h9 => h9) rfl d_OP_add_5 ?_
  refine pz_put (ci := 2) (v := .long T.1) (ty := .long) (C := "PageMaker$OpenPage") (T := T_OP) (N := 8) hx hb htb in_OP ty_OP to_OP nm_OP hown hK hP hD hS ho hfo rfl 3 (by decide) (htb _ tw_131) (fun _ h9 => h9) rfl rfl rfl rfl (Nat.le_of_ble_eq_true rfl) d_OP_add_8 (fun f1 H locs ef1 hP hD hS => ?_)
  have ef1 : f1 = va_up f o (.inr (2, [.ref to, .ref fr, .int P.1, .long T.1, .int P.2.2.1, .int P.2.2.2.1, .int P.2.2.2.2.1, .int P.2.2.2.2.2])) := ef1
  refine lv_aload_n hx hb d_OP_add_11 rfl (lv_at hl 1 rfl) ?_
  refine lv_aload_n hx hb d_OP_add_12 rfl (lv_at hl 0 rfl) ?_
  have h_2 : f1 o = .inr (2, [.ref to, .ref fr, .int P.1, .long T.1, .int P.2.2.1, .int P.2.2.2.1, .int P.2.2.2.2.1, .int P.2.2.2.2.2]) := by rw [ef1]; exact va_up_self _ _ _
  refine pz_get (ci := 2) (C := "PageMaker$OpenPage") (T := T_OP) (N := 8) hx hb htb in_OP hown hK hP ho h_2 rfl 0 (by decide) (htb _ tw_123) (fun _ h9 => h9) rfl d_OP_add_13 ?_
  refine lv_aload_n hx hb d_OP_add_16 rfl (lv_at hl 0 rfl) ?_
  refine pz_get (ci := 2) (C := "PageMaker$OpenPage") (T := T_OP) (N := 8) hx hb htb in_OP hown hK hP ho h_2 rfl 1 (by decide) (htb _ tw_126) (fun _ h9 => h9) rfl d_OP_add_17 ?_
  have h_3 : f1 q = itE it := by rw [ef1, va_up_ne _ _ hqo]; exact hfq
  have h_4 : f1 to = .inr (3, [.ref sa, .long T.1, .long T.2.1, .long T.2.2.1]) := by rw [ef1, va_up_ne _ _ (pz_nec hft hfo (by decide))]; exact hft
  have h_5 : f1 sa = .inl (cJ G, 4, .inr (.inl T.2.2.2)) := by rw [ef1, va_up_ne _ _ (pz_nea hsa hfo)]; exact hsa
  have h_6 : f1 fr = .inr (1, [.int F.1, .int F.2.1, .int F.2.2]) := by rw [ef1, va_up_ne _ _ (pz_nec hfr hfo (by decide))]; exact hfr
  rcases it with ⟨ia, ib⟩ | ⟨ia, ib, io, id9⟩ | ia | ia
  · refine pz_cv (va_runU (C := "PageMaker$Box") (As := [.ref to, .ref fr]) (rest := []) ⟨hx, hb, hml, hown, hts⟩ (ad_box l G L f1 _ q to sa fr T F ia ib hq h_3 ht h_4 hr9 h_6 hs9 h_5) (va_cwA 2 hts (tb_U tw_533 tw_467 tw_468 tw_469 tw_15 tw_470) rfl rfl rfl (hz.1 _ tn_466) (by decide +kernel) ⟨(Nat.le_of_ble_eq_true rfl), (Nat.le_of_ble_eq_true rfl)⟩) (pz_preV (zz_ok _ _ _) hK hP hD hS hA hz (ci := 5) rfl rfl hq h_3) rfl rfl hl.1 rfl (lv_room (Nat.le_of_ble_eq_true rfl)) d_OP_add_20 ⟨(Nat.le_of_ble_eq_true rfl), (Nat.le_of_ble_eq_true rfl)⟩) hP hD hS hA (fun L8 f7 H locs hw hP hD hS => ?_)
    have ef7 : f7 = va_up (va_up f1 to (toE sa (t_add (.inl (ia, ib)) F.2.2 T))) sa (saE G (t_add (.inl (ia, ib)) F.2.2 T)) := (Prod.mk.inj hw).2
    have eL8 : L8 = L := (Prod.mk.inj hw).1
    subst L8
    obtain ⟨f9, ef9⟩ : ∃ y, y = va_up f1 to (toE sa (t_add (.inl (ia, ib)) F.2.2 T)) := ⟨_, rfl⟩
    rw [← ef9] at ef7
    exact pz_vret hx hb hr hlocks hK hP hD hS (Nat.le_of_ble_eq_true rfl) (Nat.le_of_ble_eq_true rfl) (by rw [ef7, ef9, ef1]; rfl) d_OP_add_23
  · refine pz_cv (va_runU (C := "PageMaker$Glue") (As := [.ref to, .ref fr]) (rest := []) ⟨hx, hb, hml, hown, hts⟩ (ad_glue l G L f1 _ q to sa fr T F ia ib io id9 hq h_3 ht h_4 hr9 h_6 hs9 h_5 hok) (va_cwA 2 hts (tb_U tw_533 tw_467 tw_472 tw_473 tw_23 tw_474) rfl rfl rfl (hz.1 _ tn_466) (by decide +kernel) ⟨(Nat.le_of_ble_eq_true rfl), (Nat.le_of_ble_eq_true rfl)⟩) (pz_preV (zz_ok _ _ _) hK hP hD hS hA hz (ci := 6) rfl rfl hq h_3) rfl rfl hl.1 rfl (lv_room (Nat.le_of_ble_eq_true rfl)) d_OP_add_20 ⟨(Nat.le_of_ble_eq_true rfl), (Nat.le_of_ble_eq_true rfl)⟩) hP hD hS hA (fun L11 f10 H locs hw hP hD hS => ?_)
    have ef10 : f10 = va_up (va_up f1 to (toE sa (t_add (.inr (.inl (ia, ib, io, id9))) F.2.2 T))) sa (saE G (t_add (.inr (.inl (ia, ib, io, id9))) F.2.2 T)) := (Prod.mk.inj hw).2
    have eL11 : L11 = L := (Prod.mk.inj hw).1
    subst L11
    obtain ⟨f12, ef12⟩ : ∃ y, y = va_up f1 to (toE sa (t_add (.inr (.inl (ia, ib, io, id9))) F.2.2 T)) := ⟨_, rfl⟩
    rw [← ef12] at ef10
    exact pz_vret hx hb hr hlocks hK hP hD hS (Nat.le_of_ble_eq_true rfl) (Nat.le_of_ble_eq_true rfl) (by rw [ef10, ef12, ef1]; rfl) d_OP_add_23
  · refine pz_cv (va_runU (C := "PageMaker$Kern") (As := [.ref to, .ref fr]) (rest := []) ⟨hx, hb, hml, hown, hts⟩ (ad_kern l G L f1 _ q to sa fr T F ia hq h_3 ht h_4 hs9 h_5) (va_cwA 2 hts (tb_U tw_533 tw_467 tw_476 tw_477 tw_24 tw_478) rfl rfl rfl (hz.1 _ tn_466) (by decide +kernel) ⟨(Nat.le_of_ble_eq_true rfl), (Nat.le_of_ble_eq_true rfl)⟩) (pz_preV (zz_ok _ _ _) hK hP hD hS hA hz (ci := 7) rfl rfl hq h_3) rfl rfl hl.1 rfl (lv_room (Nat.le_of_ble_eq_true rfl)) d_OP_add_20 ⟨(Nat.le_of_ble_eq_true rfl), (Nat.le_of_ble_eq_true rfl)⟩) hP hD hS hA (fun L14 f13 H locs hw hP hD hS => ?_)
    have ef13 : f13 = va_up (va_up f1 to (toE sa (t_add (.inr (.inr (.inl ia))) F.2.2 T))) sa (saE G (t_add (.inr (.inr (.inl ia))) F.2.2 T)) := (Prod.mk.inj hw).2
    have eL14 : L14 = L := (Prod.mk.inj hw).1
    subst L14
    obtain ⟨f15, ef15⟩ : ∃ y, y = va_up f1 to (toE sa (t_add (.inr (.inr (.inl ia))) F.2.2 T)) := ⟨_, rfl⟩
    rw [← ef15] at ef13
    exact pz_vret hx hb hr hlocks hK hP hD hS (Nat.le_of_ble_eq_true rfl) (Nat.le_of_ble_eq_true rfl) (by rw [ef13, ef15, ef1]; rfl) d_OP_add_23
  · refine pz_cv (va_runU (C := "PageMaker$Penalty") (As := [.ref to, .ref fr]) (rest := []) ⟨hx, hb, hml, hown, hts⟩ (ad_pen l G L f1 _ q to sa fr T F ia h_4 h_5) (va_cwA 2 hts (tb_U tw_533 tw_467 tw_480 tw_481 tw_25 tw_482) rfl rfl rfl (hz.1 _ tn_466) (by decide +kernel) ⟨(Nat.le_of_ble_eq_true rfl), (Nat.le_of_ble_eq_true rfl)⟩) (pz_preV (zz_ok _ _ _) hK hP hD hS hA hz (ci := 8) rfl rfl hq h_3) rfl rfl hl.1 rfl (lv_room (Nat.le_of_ble_eq_true rfl)) d_OP_add_20 ⟨(Nat.le_of_ble_eq_true rfl), (Nat.le_of_ble_eq_true rfl)⟩) hP hD hS hA (fun L17 f16 H locs hw hP hD hS => ?_)
    have ef16 : f16 = va_up (va_up f1 to (toE sa (t_add (.inr (.inr (.inr ia))) F.2.2 T))) sa (saE G (t_add (.inr (.inr (.inr ia))) F.2.2 T)) := (Prod.mk.inj hw).2
    have eL17 : L17 = L := (Prod.mk.inj hw).1
    subst L17
    obtain ⟨f18, ef18⟩ : ∃ y, y = va_up f1 to (toE sa (t_add (.inr (.inr (.inr ia))) F.2.2 T)) := ⟨_, rfl⟩
    rw [← ef18] at ef16
    exact pz_vret hx hb hr hlocks hK hP hD hS (Nat.le_of_ble_eq_true rfl) (Nat.le_of_ble_eq_true rfl) (by rw [ef16, ef18, ef1]; rfl) d_OP_add_23
set_option maxHeartbeats 4000000 in
set_option maxRecDepth 100000 in
/-- OpenPage.begin(pl, q, fr2) -/
theorem c_OP_begin (l : Launch) (G : gG) (L : List Nat) (f : Nat → va_E) (sz : Nat) (o to sa fr fr2 q : Nat) (P : Op) (T : Tt) (F F2 : Fr) (pl b0 b1 : Int32) (ho : o ∈ L) (hfo : f o = opE to fr P) (ht : to ∈ L) (hft : f to = toE sa T) (hs9 : sa ∈ L) (hsa : f sa = saE G T) (hr9 : fr ∈ L) (hfr : f fr = frE F) (hr8 : fr2 ∈ L) (hfr2 : f fr2 = frE F2) (hq : q ∈ L) (hfq : f q = itE (.inl (b0, b1))) : mV l y_OP_begin w_OP_begin ({ frames := 3, cells := 0, slots := 0, locals := 83 }) G L f sz [.ref o, .int pl, .ref q, .ref fr2] 0 0 (fun u => u = (L, va_up (va_up (va_up f o (opE to fr2 (pl, (t_sp (k_top F2.2.1 b0) T).1, P.2.2))) to (toE sa (t_add (.inl (b0, b1)) F2.2.2 (t_sp (k_top F2.2.1 b0) T)))) sa (saE G (t_add (.inl (b0, b1)) F2.2.2 (t_sp (k_top F2.2.1 b0) T))))) := by
  refine pz_met (cc := prog_8_method_3_code) (maxL := 4) (ret := none) (by decide) rfl (Nat.le_of_ble_eq_true rfl) ?_
  intro p e s m below meth c ls hx hb hr hml hts hown hlocks hin hsz hK hP hD hS hA hz hl
  have htb : ∀ w ∈ TB, w.before _ s = true := fun w h => hts w (List.mem_cons_of_mem _ h)
  have hl : lv_has ls 4 [(0, .ref o), (1, .int pl), (2, .ref q), (3, .ref fr2)] := hl
  refine lv_aload_n hx hb d_OP_begin_0 rfl (lv_at hl 0 rfl) ?_
  refine lv_iload_n hx hb d_OP_begin_1 rfl (lv_at hl 1 rfl) ?_
  refine pz_put (ci := 2) (v := .int pl) (ty := .int) (C := "PageMaker$OpenPage") (T := T_OP) (N := 8) hx hb htb in_OP ty_OP to_OP nm_OP hown hK hP hD hS ho hfo rfl 2 (by decide) (htb _ tw_129) (fun _ h9 => h9) rfl rfl rfl rfl (Nat.le_of_ble_eq_true rfl) d_OP_begin_2 (fun f1 H locs ef1 hP hD hS => ?_)
  have ef1 : f1 = va_up f o (.inr (2, [.ref to, .ref fr, .int pl, .long P.2.1, .int P.2.2.1, .int P.2.2.2.1, .int P.2.2.2.2.1, .int P.2.2.2.2.2])) := ef1
  refine lv_aload_n hx hb d_OP_begin_5 rfl (lv_at hl 0 rfl) ?_
  refine lv_aload_n hx hb d_OP_begin_6 rfl (lv_at hl 3 rfl) ?_
  have h_2 : f1 o = .inr (2, [.ref to, .ref fr, .int pl, .long P.2.1, .int P.2.2.1, .int P.2.2.2.1, .int P.2.2.2.2.1, .int P.2.2.2.2.2]) := by rw [ef1]; exact va_up_self _ _ _
  refine pz_put (ci := 2) (v := .ref fr2) (ty := .object "PageMaker$Frame") (C := "PageMaker$OpenPage") (T := T_OP) (N := 8) hx hb htb in_OP ty_OP to_OP nm_OP hown hK hP hD hS ho h_2 rfl 1 (by decide) (htb _ tw_126) (fun _ h9 => h9) rfl rfl rfl rfl (Nat.le_of_ble_eq_true rfl) d_OP_begin_7 (fun f3 H locs ef3 hP hD hS => ?_)
  have ef3 : f3 = va_up f1 o (.inr (2, [.ref to, .ref fr2, .int pl, .long P.2.1, .int P.2.2.1, .int P.2.2.2.1, .int P.2.2.2.2.1, .int P.2.2.2.2.2])) := ef3
  refine lv_aload_n hx hb d_OP_begin_10 rfl (lv_at hl 0 rfl) ?_
  have h_4 : f3 o = .inr (2, [.ref to, .ref fr2, .int pl, .long P.2.1, .int P.2.2.1, .int P.2.2.2.1, .int P.2.2.2.2.1, .int P.2.2.2.2.2]) := by rw [ef3]; exact va_up_self _ _ _
  refine pz_get (ci := 2) (C := "PageMaker$OpenPage") (T := T_OP) (N := 8) hx hb htb in_OP hown hK hP ho h_4 rfl 0 (by decide) (htb _ tw_123) (fun _ h9 => h9) rfl d_OP_begin_11 ?_
  refine lv_aload_n hx hb d_OP_begin_14 rfl (lv_at hl 0 rfl) ?_
  refine pz_get (ci := 2) (C := "PageMaker$OpenPage") (T := T_OP) (N := 8) hx hb htb in_OP hown hK hP ho h_4 rfl 1 (by decide) (htb _ tw_126) (fun _ h9 => h9) rfl d_OP_begin_15 ?_
  refine lv_aload_n hx hb d_OP_begin_18 rfl (lv_at hl 2 rfl) ?_
  have h_6 : f1 to = .inr (3, [.ref sa, .long T.1, .long T.2.1, .long T.2.2.1]) := by rw [ef1, va_up_ne _ _ (pz_nec hft hfo (by decide))]; exact hft
  have h_5 : f3 to = .inr (3, [.ref sa, .long T.1, .long T.2.1, .long T.2.2.1]) := by rw [ef3, va_up_ne _ _ (pz_nec hft hfo (by decide))]; exact h_6
  have h_8 : f1 fr2 = .inr (1, [.int F2.1, .int F2.2.1, .int F2.2.2]) := by rw [ef1, va_up_ne _ _ (pz_nec hfr2 hfo (by decide))]; exact hfr2
  have h_7 : f3 fr2 = .inr (1, [.int F2.1, .int F2.2.1, .int F2.2.2]) := by rw [ef3, va_up_ne _ _ (pz_nec hfr2 hfo (by decide))]; exact h_8
  have h_10 : f1 q = .inr (5, [.int b0, .int b1]) := by rw [ef1, va_up_ne _ _ (pz_nec hfq hfo (by decide))]; exact hfq
  have h_9 : f3 q = .inr (5, [.int b0, .int b1]) := by rw [ef3, va_up_ne _ _ (pz_nec hfq hfo (by decide))]; exact h_10
  refine pz_cv (va_runV (As := [.ref fr2, .ref q]) (rest := []) ⟨hx, hb, hml, hown, hts⟩ (c_TO_addTopGlue l G L f3 _ to sa fr2 q T.1 T.2.1 T.2.2.1 F2.1 F2.2.1 F2.2.2 b0 b1 ht h_5 hr8 h_7 hq h_9) (cwV 2 hts (tb_V tw_538 tw_455 tw_456 tw_7 tw_457) rfl rfl rfl (by decide +kernel) ⟨(Nat.le_of_ble_eq_true rfl), (Nat.le_of_ble_eq_true rfl)⟩) (pz_preV (zz_ok _ _ _) hK hP hD hS hA hz (ci := 3) rfl rfl ht h_5) rfl rfl hl.1 rfl (lv_room (Nat.le_of_ble_eq_true rfl)) d_OP_begin_19 ⟨(Nat.le_of_ble_eq_true rfl), (Nat.le_of_ble_eq_true rfl)⟩) hP hD hS hA (fun L12 f11 H locs hw hP hD hS => ?_)
  have ef11 : f11 = va_up (f3) to (toE sa (t_sp (k_top F2.2.1 b0) T)) := (Prod.mk.inj hw).2
  have eL12 : L12 = L := (Prod.mk.inj hw).1
  subst L12
  refine lv_aload_n hx hb d_OP_begin_22 rfl (lv_at hl 0 rfl) ?_
  refine lv_aload_n hx hb d_OP_begin_23 rfl (lv_at hl 2 rfl) ?_
  have h_13 : f11 o = .inr (2, [.ref to, .ref fr2, .int pl, .long P.2.1, .int P.2.2.1, .int P.2.2.2.1, .int P.2.2.2.2.1, .int P.2.2.2.2.2]) := by rw [ef11, va_up_ne _ _ (Ne.symm (pz_nec hft hfo (by decide)))]; exact h_4
  have h_14 : f11 to = .inr (3, [.ref sa, .long ((t_sp (k_top F2.2.1 b0) T).1), .long ((t_sp (k_top F2.2.1 b0) T).2.1), .long ((t_sp (k_top F2.2.1 b0) T).2.2.1)]) := by rw [ef11]; exact va_up_self _ _ _
  have h_17 : f1 sa = .inl (cJ G, 4, .inr (.inl T.2.2.2)) := by rw [ef1, va_up_ne _ _ (pz_nea hsa hfo)]; exact hsa
  have h_16 : f3 sa = .inl (cJ G, 4, .inr (.inl T.2.2.2)) := by rw [ef3, va_up_ne _ _ (pz_nea hsa hfo)]; exact h_17
  have h_15 : f11 sa = .inl (cJ G, 4, .inr (.inl T.2.2.2)) := by rw [ef11, va_up_ne _ _ (pz_nea hsa hft)]; exact h_16
  have h_18 : f11 fr2 = .inr (1, [.int F2.1, .int F2.2.1, .int F2.2.2]) := by rw [ef11, va_up_ne _ _ (pz_nec hfr2 hft (by decide))]; exact h_7
  have h_19 : f11 q = .inr (5, [.int b0, .int b1]) := by rw [ef11, va_up_ne _ _ (pz_nec hfq hft (by decide))]; exact h_9
  refine pz_cv (va_runV (As := [.ref q]) (rest := []) ⟨hx, hb, hml, hown, hts⟩ (c_OP_add l G L f11 _ o to sa fr2 q (pl, P.2) (t_sp (k_top F2.2.1 b0) T) F2 (.inl (b0, b1)) ho h_13 ht h_14 hs9 h_15 hr8 h_18 hq h_19 trivial) (cwV 1 hts (tb_V tw_539 tw_530 tw_531 tw_6 tw_532) rfl rfl rfl (by decide +kernel) ⟨(Nat.le_of_ble_eq_true rfl), (Nat.le_of_ble_eq_true rfl)⟩) (pz_preV (zz_ok _ _ _) hK hP hD hS hA hz (ci := 2) rfl rfl ho h_13) rfl rfl hl.1 rfl (lv_room (Nat.le_of_ble_eq_true rfl)) d_OP_begin_24 ⟨(Nat.le_of_ble_eq_true rfl), (Nat.le_of_ble_eq_true rfl)⟩) hP hD hS hA (fun L21 f20 H locs hw hP hD hS => ?_)
  have ef20 : f20 = va_up (va_up (va_up (f11) o (opE to fr2 (pl, (t_sp (k_top F2.2.1 b0) T).1, P.2.2))) to (toE sa (t_add (.inl (b0, b1)) F2.2.2 (t_sp (k_top F2.2.1 b0) T)))) sa (saE G (t_add (.inl (b0, b1)) F2.2.2 (t_sp (k_top F2.2.1 b0) T))) := (Prod.mk.inj hw).2
  have eL21 : L21 = L := (Prod.mk.inj hw).1
  subst L21
  obtain ⟨f22, ef22⟩ : ∃ y, y = va_up f11 o (opE to fr2 (pl, (t_sp (k_top F2.2.1 b0) T).1, P.2.2)) := ⟨_, rfl⟩
  rw [← ef22] at ef20
  obtain ⟨f23, ef23⟩ : ∃ y, y = va_up f22 to (toE sa (t_add (.inl (b0, b1)) F2.2.2 (t_sp (k_top F2.2.1 b0) T))) := ⟨_, rfl⟩
  rw [← ef23] at ef20
  exact pz_vret hx hb hr hlocks hK hP hD hS (Nat.le_of_ble_eq_true rfl) (Nat.le_of_ble_eq_true rfl) (by rw [ef20, ef23, ef22, ef11, ef3, ef1, pz_up_comm _ _ _ (pz_nec hft hfo (by decide)), bx_uu, bx_uu, bx_uu]) d_OP_begin_27
set_option maxHeartbeats 4000000 in
set_option maxRecDepth 100000 in
/-- OpenPage.endsAtBreak(pl, le, pp) -/
theorem c_OP_endsAtBreak (l : Launch) (G : gG) (L : List Nat) (f : Nat → va_E) (sz : Nat) (o to sa fr : Nat) (P : Op) (T : Tt) (F : Fr) (pl pp : Int32) (le : Int64) (ho : o ∈ L) (hfo : f o = opE to fr P) (ht : to ∈ L) (hft : f to = toE sa T) (hs9 : sa ∈ L) (hsa : f sa = saE G T) (hr9 : fr ∈ L) (hfr : f fr = frE F) : mI l y_OP_endsAtBreak w_OP_endsAtBreak ({ frames := 2, cells := 0, slots := 0, locals := 47 }) G L f sz [.ref o, .int pl, .long le, .int pp] 0 0 (fun r u => k_b (o_ends (k_cost (o_bad T F.1 le) pp) pp) r ∧ (r = 1 → u = (L, va_up f o (opE to fr (o_end (o_best P pl (o_bad T F.1 le) (k_cost (o_bad T F.1 le) pp)) pl)))) ∧ (r = 0 → u = (L, va_up f o (opE to fr (o_best P pl (o_bad T F.1 le) (k_cost (o_bad T F.1 le) pp)))))) := by
  refine pz_met (cc := prog_8_method_5_code) (maxL := 7) (ret := (some .boolean)) (by decide) rfl (Nat.le_of_ble_eq_true rfl) ?_
  intro p e s m below meth c ls hx hb hr hml hts hown hlocks hin hsz hK hP hD hS hA hz hl
  have htb : ∀ w ∈ TB, w.before _ s = true := fun w h => hts w (List.mem_cons_of_mem _ h)
  have hl : lv_has ls 7 [(0, .ref o), (1, .int pl), (2, .long le), (4, .int pp)] := hl
  refine lv_aload_n hx hb d_OP_endsAtBreak_0 rfl (lv_at hl 0 rfl) ?_
  refine pz_get (ci := 2) (C := "PageMaker$OpenPage") (T := T_OP) (N := 8) hx hb htb in_OP hown hK hP ho hfo rfl 0 (by decide) (htb _ tw_123) (fun _ h9 => h9) rfl d_OP_endsAtBreak_1 ?_
  refine lv_aload_n hx hb d_OP_endsAtBreak_4 rfl (lv_at hl 0 rfl) ?_
  refine pz_get (ci := 2) (C := "PageMaker$OpenPage") (T := T_OP) (N := 8) hx hb htb in_OP hown hK hP ho hfo rfl 1 (by decide) (htb _ tw_126) (fun _ h9 => h9) rfl d_OP_endsAtBreak_5 ?_
  refine pz_get (ci := 1) (C := "PageMaker$Frame") (T := T_FR) (N := 3) hx hb htb in_FR hown hK hP hr9 hfr rfl 0 (by decide) (htb _ tw_72) (fun _ h9 => h9) rfl d_OP_endsAtBreak_8 ?_
  refine lv_i2l hx hb d_OP_endsAtBreak_11 rfl ?_
  refine lv_lload_n hx hb d_OP_endsAtBreak_12 rfl (lv_at hl 2 rfl) ?_
  refine lv_lsub hx hb d_OP_endsAtBreak_13 ?_
  refine vp_callSi (va_Run.run (va_runV (As := [.long (F.1.toInt64 - le)]) (rest := []) ⟨hx, hb, hml, hown, hts⟩ (c_TO_badnessOfExcess l G L f _ to sa T.1 T.2.1 T.2.2.1 (F.1.toInt64 - le) T.2.2.2 ht hft hs9 hsa) (cwV 1 hts (tb_V tw_418 tw_419 tw_420 tw_7 tw_421) rfl rfl rfl (by decide +kernel) ⟨(Nat.le_of_ble_eq_true rfl), (Nat.le_of_ble_eq_true rfl)⟩) (pz_preV (zz_ok _ _ _) hK hP hD hS hA hz (ci := 3) rfl rfl ht hft) rfl rfl hl.1 rfl (lv_room (Nat.le_of_ble_eq_true rfl)) d_OP_endsAtBreak_14 ⟨(Nat.le_of_ble_eq_true rfl), (Nat.le_of_ble_eq_true rfl)⟩)) (fun r1 hw => ?_)
  have hw : r1 = (o_bad T F.1 le) := hw
  subst r1
  refine lv_istore (lv' := [(5, .int (o_bad T F.1 le)), (0, .ref o), (1, .int pl), (2, .long le), (4, .int pp)]) hx hb d_OP_endsAtBreak_17 hl (by decide) rfl (fun ls hl => ?_)
  refine lv_iload hx hb d_OP_endsAtBreak_19 (lv_at hl 0 rfl) ?_
  refine lv_iload hx hb d_OP_endsAtBreak_21 (lv_at hl 4 rfl) ?_
  refine vp_callSi (va_Run.run (va_runSN (As := [.int (o_bad T F.1 le), .int pp]) (rest := []) ⟨hx, hb, hml, hown, hts⟩ (c_PM_costOf l (o_bad T F.1 le) pp) ⟨va_cnB 2 hts (tb_good tw_438) rfl rfl rfl (hz.1 _ tn_436) (htb _ tw_1) (by decide +kernel) ⟨(Nat.le_of_ble_eq_true rfl), (Nat.le_of_ble_eq_true rfl)⟩, htb _ tw_437, trivial⟩ pz_preP rfl rfl hl.1 rfl (lv_room (Nat.le_of_ble_eq_true rfl)) d_OP_endsAtBreak_23 ⟨(Nat.le_of_ble_eq_true rfl), (Nat.le_of_ble_eq_true rfl)⟩)) (fun r2 hw => ?_)
  have hw : r2 = (k_cost (o_bad T F.1 le) pp) := hw
  subst r2
  refine lv_istore (lv' := [(6, .int (k_cost (o_bad T F.1 le) pp)), (5, .int (o_bad T F.1 le)), (0, .ref o), (1, .int pl), (2, .long le), (4, .int pp)]) hx hb d_OP_endsAtBreak_26 hl (by decide) rfl (fun ls hl => ?_)
  refine lv_iload hx hb d_OP_endsAtBreak_28 (lv_at hl 0 rfl) ?_
  refine lv_aload_n hx hb d_OP_endsAtBreak_30 rfl (lv_at hl 2 rfl) ?_
  refine pz_get (ci := 2) (C := "PageMaker$OpenPage") (T := T_OP) (N := 8) hx hb htb in_OP hown hK hP ho hfo rfl 5 (by decide) (htb _ tw_137) (fun _ h9 => h9) rfl d_OP_endsAtBreak_31 ?_
  refine lv_icmp_gt (tgt := 54) hx hb d_OP_endsAtBreak_34 (by decide) (fun c_3 => ?_) (fun c_3 => ?_)
  · refine lv_iload hx hb d_OP_endsAtBreak_54 (lv_at hl 0 rfl) ?_
    refine lv_ldc (v := 1073741823) hx hb hown (htb _ tw_122) d_OP_endsAtBreak_56 ?_
    refine lv_icmp_eq (tgt := 71) hx hb d_OP_endsAtBreak_58 (by decide) (fun c_4 => ?_) (fun c_4 => ?_)
    · refine lv_aload_n hx hb d_OP_endsAtBreak_71 rfl (lv_at hl 2 rfl) ?_
      refine lv_iload_n hx hb d_OP_endsAtBreak_72 rfl (lv_at hl 3 rfl) ?_
      refine pz_put (ci := 2) (v := .int pl) (ty := .int) (C := "PageMaker$OpenPage") (T := T_OP) (N := 8) hx hb htb in_OP ty_OP to_OP nm_OP hown hK hP hD hS ho hfo rfl 7 (by decide) (htb _ tw_141) (fun _ h9 => h9) rfl rfl rfl rfl (Nat.le_of_ble_eq_true rfl) d_OP_endsAtBreak_73 (fun f5 H locs ef5 hP hD hS => ?_)
      have ef5 : f5 = va_up f o (.inr (2, [.ref to, .ref fr, .int P.1, .long P.2.1, .int P.2.2.1, .int P.2.2.2.1, .int P.2.2.2.2.1, .int pl])) := ef5
      refine lv_iconst (v := 1) hx hb d_OP_endsAtBreak_76 (by decide) ?_
      exact pz_iret hx hb hr rfl hlocks hK hP hD hS (Nat.le_of_ble_eq_true rfl) (Nat.le_of_ble_eq_true rfl) ⟨k_b1 (Or.inl c_4), fun _ => by rw [ef5, o_best, if_neg (i32_nle c_3)]; rfl, fun h => absurd h (by decide)⟩ d_OP_endsAtBreak_77
    · refine lv_iload hx hb d_OP_endsAtBreak_61 (lv_at hl 5 rfl) ?_
      refine lv_sipush (v := (-10000)) hx hb d_OP_endsAtBreak_63 (by decide) ?_
      refine lv_icmp_le (tgt := 71) hx hb d_OP_endsAtBreak_66 (by decide) (fun c_6 => ?_) (fun c_6 => ?_)
      · refine lv_aload_n hx hb d_OP_endsAtBreak_71 rfl (lv_at hl 2 rfl) ?_
        refine lv_iload_n hx hb d_OP_endsAtBreak_72 rfl (lv_at hl 3 rfl) ?_
        refine pz_put (ci := 2) (v := .int pl) (ty := .int) (C := "PageMaker$OpenPage") (T := T_OP) (N := 8) hx hb htb in_OP ty_OP to_OP nm_OP hown hK hP hD hS ho hfo rfl 7 (by decide) (htb _ tw_141) (fun _ h9 => h9) rfl rfl rfl rfl (Nat.le_of_ble_eq_true rfl) d_OP_endsAtBreak_73 (fun f7 H locs ef7 hP hD hS => ?_)
        have ef7 : f7 = va_up f o (.inr (2, [.ref to, .ref fr, .int P.1, .long P.2.1, .int P.2.2.1, .int P.2.2.2.1, .int P.2.2.2.2.1, .int pl])) := ef7
        refine lv_iconst (v := 1) hx hb d_OP_endsAtBreak_76 (by decide) ?_
        exact pz_iret hx hb hr rfl hlocks hK hP hD hS (Nat.le_of_ble_eq_true rfl) (Nat.le_of_ble_eq_true rfl) ⟨k_b1 (Or.inr c_6), fun _ => by rw [ef7, o_best, if_neg (i32_nle c_3)]; rfl, fun h => absurd h (by decide)⟩ d_OP_endsAtBreak_77
      · refine lv_iconst (v := 0) hx hb d_OP_endsAtBreak_69 (by decide) ?_
        exact pz_iret hx hb hr rfl hlocks hK hP hD hS (Nat.le_of_ble_eq_true rfl) (Nat.le_of_ble_eq_true rfl) ⟨k_b0 (fun h => h.elim c_4 c_6), fun h => absurd h (by decide), fun _ => by rw [o_best, if_neg (i32_nle c_3)]; show (L, f) = (L, va_up f o (opE to fr P)); rw [← hfo, pz_up_same]⟩ d_OP_endsAtBreak_70
  · refine lv_aload_n hx hb d_OP_endsAtBreak_37 rfl (lv_at hl 2 rfl) ?_
    refine lv_iload_n hx hb d_OP_endsAtBreak_38 rfl (lv_at hl 3 rfl) ?_
    refine pz_put (ci := 2) (v := .int pl) (ty := .int) (C := "PageMaker$OpenPage") (T := T_OP) (N := 8) hx hb htb in_OP ty_OP to_OP nm_OP hown hK hP hD hS ho hfo rfl 4 (by decide) (htb _ tw_134) (fun _ h9 => h9) rfl rfl rfl rfl (Nat.le_of_ble_eq_true rfl) d_OP_endsAtBreak_39 (fun f8 H locs ef8 hP hD hS => ?_)
    have ef8 : f8 = va_up f o (.inr (2, [.ref to, .ref fr, .int P.1, .long P.2.1, .int pl, .int P.2.2.2.1, .int P.2.2.2.2.1, .int P.2.2.2.2.2])) := ef8
    refine lv_aload_n hx hb d_OP_endsAtBreak_42 rfl (lv_at hl 2 rfl) ?_
    refine lv_iload hx hb d_OP_endsAtBreak_43 (lv_at hl 0 rfl) ?_
    have h_9 : f8 o = .inr (2, [.ref to, .ref fr, .int P.1, .long P.2.1, .int pl, .int P.2.2.2.1, .int P.2.2.2.2.1, .int P.2.2.2.2.2]) := by rw [ef8]; exact va_up_self _ _ _
    refine pz_put (ci := 2) (v := .int (k_cost (o_bad T F.1 le) pp)) (ty := .int) (C := "PageMaker$OpenPage") (T := T_OP) (N := 8) hx hb htb in_OP ty_OP to_OP nm_OP hown hK hP hD hS ho h_9 rfl 5 (by decide) (htb _ tw_137) (fun _ h9 => h9) rfl rfl rfl rfl (Nat.le_of_ble_eq_true rfl) d_OP_endsAtBreak_45 (fun f10 H locs ef10 hP hD hS => ?_)
    have ef10 : f10 = va_up f8 o (.inr (2, [.ref to, .ref fr, .int P.1, .long P.2.1, .int pl, .int (k_cost (o_bad T F.1 le) pp), .int P.2.2.2.2.1, .int P.2.2.2.2.2])) := ef10
    refine lv_aload_n hx hb d_OP_endsAtBreak_48 rfl (lv_at hl 2 rfl) ?_
    refine lv_iload hx hb d_OP_endsAtBreak_49 (lv_at hl 1 rfl) ?_
    have h_11 : f10 o = .inr (2, [.ref to, .ref fr, .int P.1, .long P.2.1, .int pl, .int (k_cost (o_bad T F.1 le) pp), .int P.2.2.2.2.1, .int P.2.2.2.2.2]) := by rw [ef10]; exact va_up_self _ _ _
    refine pz_put (ci := 2) (v := .int (o_bad T F.1 le)) (ty := .int) (C := "PageMaker$OpenPage") (T := T_OP) (N := 8) hx hb htb in_OP ty_OP to_OP nm_OP hown hK hP hD hS ho h_11 rfl 6 (by decide) (htb _ tw_140) (fun _ h9 => h9) rfl rfl rfl rfl (Nat.le_of_ble_eq_true rfl) d_OP_endsAtBreak_51 (fun f12 H locs ef12 hP hD hS => ?_)
    have ef12 : f12 = va_up f10 o (.inr (2, [.ref to, .ref fr, .int P.1, .long P.2.1, .int pl, .int (k_cost (o_bad T F.1 le) pp), .int (o_bad T F.1 le), .int P.2.2.2.2.2])) := ef12
    refine lv_iload hx hb d_OP_endsAtBreak_54 (lv_at hl 0 rfl) ?_
    refine lv_ldc (v := 1073741823) hx hb hown (htb _ tw_122) d_OP_endsAtBreak_56 ?_
    refine lv_icmp_eq (tgt := 71) hx hb d_OP_endsAtBreak_58 (by decide) (fun c_13 => ?_) (fun c_13 => ?_)
    · refine lv_aload_n hx hb d_OP_endsAtBreak_71 rfl (lv_at hl 2 rfl) ?_
      refine lv_iload_n hx hb d_OP_endsAtBreak_72 rfl (lv_at hl 3 rfl) ?_
      have h_14 : f12 o = .inr (2, [.ref to, .ref fr, .int P.1, .long P.2.1, .int pl, .int (k_cost (o_bad T F.1 le) pp), .int (o_bad T F.1 le), .int P.2.2.2.2.2]) := by rw [ef12]; exact va_up_self _ _ _
      refine pz_put (ci := 2) (v := .int pl) (ty := .int) (C := "PageMaker$OpenPage") (T := T_OP) (N := 8) hx hb htb in_OP ty_OP to_OP nm_OP hown hK hP hD hS ho h_14 rfl 7 (by decide) (htb _ tw_141) (fun _ h9 => h9) rfl rfl rfl rfl (Nat.le_of_ble_eq_true rfl) d_OP_endsAtBreak_73 (fun f15 H locs ef15 hP hD hS => ?_)
      have ef15 : f15 = va_up f12 o (.inr (2, [.ref to, .ref fr, .int P.1, .long P.2.1, .int pl, .int (k_cost (o_bad T F.1 le) pp), .int (o_bad T F.1 le), .int pl])) := ef15
      refine lv_iconst (v := 1) hx hb d_OP_endsAtBreak_76 (by decide) ?_
      exact pz_iret hx hb hr rfl hlocks hK hP hD hS (Nat.le_of_ble_eq_true rfl) (Nat.le_of_ble_eq_true rfl) ⟨k_b1 (Or.inl c_13), fun _ => by rw [ef15, ef12, ef10, ef8, bx_uu, bx_uu, bx_uu, o_best, if_pos (i32_le c_3)]; rfl, fun h => absurd h (by decide)⟩ d_OP_endsAtBreak_77
    · refine lv_iload hx hb d_OP_endsAtBreak_61 (lv_at hl 5 rfl) ?_
      refine lv_sipush (v := (-10000)) hx hb d_OP_endsAtBreak_63 (by decide) ?_
      refine lv_icmp_le (tgt := 71) hx hb d_OP_endsAtBreak_66 (by decide) (fun c_16 => ?_) (fun c_16 => ?_)
      · refine lv_aload_n hx hb d_OP_endsAtBreak_71 rfl (lv_at hl 2 rfl) ?_
        refine lv_iload_n hx hb d_OP_endsAtBreak_72 rfl (lv_at hl 3 rfl) ?_
        have h_17 : f12 o = .inr (2, [.ref to, .ref fr, .int P.1, .long P.2.1, .int pl, .int (k_cost (o_bad T F.1 le) pp), .int (o_bad T F.1 le), .int P.2.2.2.2.2]) := by rw [ef12]; exact va_up_self _ _ _
        refine pz_put (ci := 2) (v := .int pl) (ty := .int) (C := "PageMaker$OpenPage") (T := T_OP) (N := 8) hx hb htb in_OP ty_OP to_OP nm_OP hown hK hP hD hS ho h_17 rfl 7 (by decide) (htb _ tw_141) (fun _ h9 => h9) rfl rfl rfl rfl (Nat.le_of_ble_eq_true rfl) d_OP_endsAtBreak_73 (fun f18 H locs ef18 hP hD hS => ?_)
        have ef18 : f18 = va_up f12 o (.inr (2, [.ref to, .ref fr, .int P.1, .long P.2.1, .int pl, .int (k_cost (o_bad T F.1 le) pp), .int (o_bad T F.1 le), .int pl])) := ef18
        refine lv_iconst (v := 1) hx hb d_OP_endsAtBreak_76 (by decide) ?_
        exact pz_iret hx hb hr rfl hlocks hK hP hD hS (Nat.le_of_ble_eq_true rfl) (Nat.le_of_ble_eq_true rfl) ⟨k_b1 (Or.inr c_16), fun _ => by rw [ef18, ef12, ef10, ef8, bx_uu, bx_uu, bx_uu, o_best, if_pos (i32_le c_3)]; rfl, fun h => absurd h (by decide)⟩ d_OP_endsAtBreak_77
      · refine lv_iconst (v := 0) hx hb d_OP_endsAtBreak_69 (by decide) ?_
        exact pz_iret hx hb hr rfl hlocks hK hP hD hS (Nat.le_of_ble_eq_true rfl) (Nat.le_of_ble_eq_true rfl) ⟨k_b0 (fun h => h.elim c_13 c_16), fun h => absurd h (by decide), fun _ => by rw [ef12, ef10, ef8, bx_uu, bx_uu, o_best, if_pos (i32_le c_3)]; rfl⟩ d_OP_endsAtBreak_70
set_option maxHeartbeats 4000000 in
set_option maxRecDepth 100000 in
/-- OpenPage(fr) -/
theorem c_OP_init (l : Launch) (G : gG) (L : List Nat) (f : Nat → va_E) (sz : Nat) (o fr : Nat) (i1 i2 i3 i4 i5 : Int32) (j1 : Int64) (ho : o ∈ L) (hfo : f o = .inr (2, [.null, .null, .int i1, .long j1, .int i2, .int i3, .int i4, .int i5])) (hr9 : fr ∈ L) : mV l y_OP_init w_OP_init ({ frames := 2, cells := 2, slots := 8, locals := 40 }) G L f sz [.ref o, .ref fr] 2 8 (fun u => ∃ to sa, to ∉ L ∧ sa ∉ L ∧ to ≠ sa ∧ u = (L ++ [to] ++ [sa], va_up (va_up (va_up f sa (saE G t_0)) to (toE sa t_0)) o (opE to fr ((-1), 0, (-1), 1073741823, 1073741823, (-1))))) := by
  refine pz_met (cc := prog_8_method_1_code) (maxL := 2) (ret := none) (by decide) rfl (Nat.le_of_ble_eq_true rfl) ?_
  intro p e s m below meth c ls hx hb hr hml hts hown hlocks hin hsz hK hP hD hS hA hz hl
  have htb : ∀ w ∈ TB, w.before _ s = true := fun w h => hts w (List.mem_cons_of_mem _ h)
  have hl : lv_has ls 2 [(0, .ref o), (1, .ref fr)] := hl
  refine lv_aload_n hx hb d_OP_init_0 rfl (lv_at hl 0 rfl) ?_
  refine W.objInit hx hb hown (htb _ tw_89) (htb _ tw_33) (htb _ tw_34) rfl (by rw [hml]; exact hl.1) rfl d_OP_init_1 (Nat.le_of_ble_eq_true rfl) (Nat.le_of_ble_eq_true rfl) ?_
  refine W.eq (g2 := F0 m 4 ls []) rfl ?_
  refine lv_aload_n hx hb d_OP_init_4 rfl (lv_at hl 0 rfl) ?_
  refine pz_new (ci := 3) (fs := [.null, .long 0, .long 0, .long 0]) (C := "PageMaker$Totals") (T := T_TO) (N := 4) hx hb htb in_TO ty_TO to_TO hown (htb _ tw_90) (htb _ tw_91) (htb _ tw_7) hK hP hD hS hA rfl (fun j hj => by rcases (show j = 0 ∨ j = 1 ∨ j = 2 ∨ j = 3 by omega) with rfl | rfl | rfl | rfl <;> rfl) (Nat.le_of_ble_eq_true rfl) (Nat.le_of_ble_eq_true rfl) d_OP_init_5 (fun q1 L2 f3 H hnq1 eL2 ef3 hP hD hS => ?_)
  subst L2
  refine lv_dup hx hb d_OP_init_8 rfl ?_
  have h_4 : f3 q1 = .inr (3, [.null, .long 0, .long 0, .long 0]) := by rw [ef3]; exact va_up_self _ _ _
  refine pz_cv (va_runIN (As := []) (rest := [.ref q1, .ref o]) ⟨hx, hb, hml, hown, hts⟩ (c_TO_init l G (L ++ [q1]) f3 _ q1 0 0 0 (l_in_new _ _) h_4) ⟨va_cnB 0 hts (tb_good tw_94) rfl rfl rfl (hz.1 _ tn_92) (htb _ tw_7) (by decide +kernel) ⟨(Nat.le_of_ble_eq_true rfl), (Nat.le_of_ble_eq_true rfl)⟩, rfl, htb _ tw_93⟩ (pz_pre (zz_ok _ _ _) hK hP hD hS hA hz) rfl rfl hl.1 rfl (lv_room (Nat.le_of_ble_eq_true rfl)) d_OP_init_9 ⟨(Nat.le_of_ble_eq_true rfl), (Nat.le_of_ble_eq_true rfl)⟩) hP hD hS hA (fun L6 f5 H locs hw hP hD hS => ?_)
  obtain ⟨sa, hnsa, hw⟩ := hw
  have eL6 : L6 = (L ++ [q1]) ++ [sa] := (Prod.mk.inj hw).1
  obtain ⟨f7, ef7⟩ : ∃ y, y = va_up f3 sa (.inl (cJ G, 4, .inr (.inl (fun _ => 0)))) := ⟨_, rfl⟩
  subst L6
  have ef5 : f5 = va_up (f7) q1 (.inr (3, [.ref sa, .long t_0.1, .long t_0.2.1, .long t_0.2.2.1])) := (Prod.mk.inj hw).2.trans (by rw [ef7]; rfl)
  have h_10 : f3 o = .inr (2, [.null, .null, .int i1, .long j1, .int i2, .int i3, .int i4, .int i5]) := by rw [ef3, va_up_ne _ _ (Ne.symm (pz_nef hnq1 ho))]; exact hfo
  have h_9 : f7 o = .inr (2, [.null, .null, .int i1, .long j1, .int i2, .int i3, .int i4, .int i5]) := by rw [ef7, va_up_ne _ _ (Ne.symm (pz_nef hnsa (List.mem_append_left _ ho)))]; exact h_10
  have h_8 : f5 o = .inr (2, [.null, .null, .int i1, .long j1, .int i2, .int i3, .int i4, .int i5]) := by rw [ef5, va_up_ne _ _ (Ne.symm (pz_nef hnq1 ho))]; exact h_9
  refine pz_putF (ci := 2) (v := .ref q1) (ty := .object "PageMaker$Totals") (C := "PageMaker$OpenPage") (T := T_OP) (N := 8) hx hb htb in_OP ty_OP to_OP nm_OP hown hK hP hD hS (List.mem_append_left _ (List.mem_append_left _ ho)) h_8 rfl 0 (by decide) (htb _ tw_123) (fun _ h9 => h9) rfl hin rfl rfl rfl rfl (Nat.le_of_ble_eq_true rfl) d_OP_init_12 (fun f11 H locs ef11 hP hD hS => ?_)
  have ef11 : f11 = va_up f5 o (.inr (2, [.ref q1, .null, .int i1, .long j1, .int i2, .int i3, .int i4, .int i5])) := ef11
  refine lv_aload_n hx hb d_OP_init_15 rfl (lv_at hl 0 rfl) ?_
  refine lv_iconst (v := (-1)) hx hb d_OP_init_16 (by decide) ?_
  have h_12 : f11 o = .inr (2, [.ref q1, .null, .int i1, .long j1, .int i2, .int i3, .int i4, .int i5]) := by rw [ef11]; exact va_up_self _ _ _
  refine pz_put (ci := 2) (v := .int (-1)) (ty := .int) (C := "PageMaker$OpenPage") (T := T_OP) (N := 8) hx hb htb in_OP ty_OP to_OP nm_OP hown hK hP hD hS (List.mem_append_left _ (List.mem_append_left _ ho)) h_12 rfl 2 (by decide) (htb _ tw_129) (fun _ h9 => h9) rfl rfl rfl rfl (Nat.le_of_ble_eq_true rfl) d_OP_init_17 (fun f13 H locs ef13 hP hD hS => ?_)
  have ef13 : f13 = va_up f11 o (.inr (2, [.ref q1, .null, .int (-1), .long j1, .int i2, .int i3, .int i4, .int i5])) := ef13
  refine lv_aload_n hx hb d_OP_init_20 rfl (lv_at hl 0 rfl) ?_
  refine lv_lconst (v := 0) hx hb d_OP_init_21 rfl ?_
  have h_14 : f13 o = .inr (2, [.ref q1, .null, .int (-1), .long j1, .int i2, .int i3, .int i4, .int i5]) := by rw [ef13]; exact va_up_self _ _ _
  refine pz_put (ci := 2) (v := .long 0) (ty := .long) (C := "PageMaker$OpenPage") (T := T_OP) (N := 8) hx hb htb in_OP ty_OP to_OP nm_OP hown hK hP hD hS (List.mem_append_left _ (List.mem_append_left _ ho)) h_14 rfl 3 (by decide) (htb _ tw_131) (fun _ h9 => h9) rfl rfl rfl rfl (Nat.le_of_ble_eq_true rfl) d_OP_init_22 (fun f15 H locs ef15 hP hD hS => ?_)
  have ef15 : f15 = va_up f13 o (.inr (2, [.ref q1, .null, .int (-1), .long 0, .int i2, .int i3, .int i4, .int i5])) := ef15
  refine lv_aload_n hx hb d_OP_init_25 rfl (lv_at hl 0 rfl) ?_
  refine lv_iconst (v := (-1)) hx hb d_OP_init_26 (by decide) ?_
  have h_16 : f15 o = .inr (2, [.ref q1, .null, .int (-1), .long 0, .int i2, .int i3, .int i4, .int i5]) := by rw [ef15]; exact va_up_self _ _ _
  refine pz_put (ci := 2) (v := .int (-1)) (ty := .int) (C := "PageMaker$OpenPage") (T := T_OP) (N := 8) hx hb htb in_OP ty_OP to_OP nm_OP hown hK hP hD hS (List.mem_append_left _ (List.mem_append_left _ ho)) h_16 rfl 4 (by decide) (htb _ tw_134) (fun _ h9 => h9) rfl rfl rfl rfl (Nat.le_of_ble_eq_true rfl) d_OP_init_27 (fun f17 H locs ef17 hP hD hS => ?_)
  have ef17 : f17 = va_up f15 o (.inr (2, [.ref q1, .null, .int (-1), .long 0, .int (-1), .int i3, .int i4, .int i5])) := ef17
  refine lv_aload_n hx hb d_OP_init_30 rfl (lv_at hl 0 rfl) ?_
  refine lv_ldc (v := 1073741823) hx hb hown (htb _ tw_122) d_OP_init_31 ?_
  have h_18 : f17 o = .inr (2, [.ref q1, .null, .int (-1), .long 0, .int (-1), .int i3, .int i4, .int i5]) := by rw [ef17]; exact va_up_self _ _ _
  refine pz_put (ci := 2) (v := .int 1073741823) (ty := .int) (C := "PageMaker$OpenPage") (T := T_OP) (N := 8) hx hb htb in_OP ty_OP to_OP nm_OP hown hK hP hD hS (List.mem_append_left _ (List.mem_append_left _ ho)) h_18 rfl 5 (by decide) (htb _ tw_137) (fun _ h9 => h9) rfl rfl rfl rfl (Nat.le_of_ble_eq_true rfl) d_OP_init_33 (fun f19 H locs ef19 hP hD hS => ?_)
  have ef19 : f19 = va_up f17 o (.inr (2, [.ref q1, .null, .int (-1), .long 0, .int (-1), .int 1073741823, .int i4, .int i5])) := ef19
  refine lv_aload_n hx hb d_OP_init_36 rfl (lv_at hl 0 rfl) ?_
  refine lv_ldc (v := 1073741823) hx hb hown (htb _ tw_122) d_OP_init_37 ?_
  have h_20 : f19 o = .inr (2, [.ref q1, .null, .int (-1), .long 0, .int (-1), .int 1073741823, .int i4, .int i5]) := by rw [ef19]; exact va_up_self _ _ _
  refine pz_put (ci := 2) (v := .int 1073741823) (ty := .int) (C := "PageMaker$OpenPage") (T := T_OP) (N := 8) hx hb htb in_OP ty_OP to_OP nm_OP hown hK hP hD hS (List.mem_append_left _ (List.mem_append_left _ ho)) h_20 rfl 6 (by decide) (htb _ tw_140) (fun _ h9 => h9) rfl rfl rfl rfl (Nat.le_of_ble_eq_true rfl) d_OP_init_39 (fun f21 H locs ef21 hP hD hS => ?_)
  have ef21 : f21 = va_up f19 o (.inr (2, [.ref q1, .null, .int (-1), .long 0, .int (-1), .int 1073741823, .int 1073741823, .int i5])) := ef21
  refine lv_aload_n hx hb d_OP_init_42 rfl (lv_at hl 0 rfl) ?_
  refine lv_iconst (v := (-1)) hx hb d_OP_init_43 (by decide) ?_
  have h_22 : f21 o = .inr (2, [.ref q1, .null, .int (-1), .long 0, .int (-1), .int 1073741823, .int 1073741823, .int i5]) := by rw [ef21]; exact va_up_self _ _ _
  refine pz_put (ci := 2) (v := .int (-1)) (ty := .int) (C := "PageMaker$OpenPage") (T := T_OP) (N := 8) hx hb htb in_OP ty_OP to_OP nm_OP hown hK hP hD hS (List.mem_append_left _ (List.mem_append_left _ ho)) h_22 rfl 7 (by decide) (htb _ tw_141) (fun _ h9 => h9) rfl rfl rfl rfl (Nat.le_of_ble_eq_true rfl) d_OP_init_44 (fun f23 H locs ef23 hP hD hS => ?_)
  have ef23 : f23 = va_up f21 o (.inr (2, [.ref q1, .null, .int (-1), .long 0, .int (-1), .int 1073741823, .int 1073741823, .int (-1)])) := ef23
  refine lv_aload_n hx hb d_OP_init_47 rfl (lv_at hl 0 rfl) ?_
  refine lv_aload_n hx hb d_OP_init_48 rfl (lv_at hl 1 rfl) ?_
  have h_24 : f23 o = .inr (2, [.ref q1, .null, .int (-1), .long 0, .int (-1), .int 1073741823, .int 1073741823, .int (-1)]) := by rw [ef23]; exact va_up_self _ _ _
  refine pz_put (ci := 2) (v := .ref fr) (ty := .object "PageMaker$Frame") (C := "PageMaker$OpenPage") (T := T_OP) (N := 8) hx hb htb in_OP ty_OP to_OP nm_OP hown hK hP hD hS (List.mem_append_left _ (List.mem_append_left _ ho)) h_24 rfl 1 (by decide) (htb _ tw_126) (fun _ h9 => h9) rfl rfl rfl rfl (Nat.le_of_ble_eq_true rfl) d_OP_init_49 (fun f25 H locs ef25 hP hD hS => ?_)
  have ef25 : f25 = va_up f23 o (.inr (2, [.ref q1, .ref fr, .int (-1), .long 0, .int (-1), .int 1073741823, .int 1073741823, .int (-1)])) := ef25
  exact pz_vret hx hb hr hlocks hK hP hD hS (Nat.le_of_ble_eq_true rfl) (Nat.le_of_ble_eq_true rfl) ⟨q1, sa, hnq1, fun h9 => hnsa (List.mem_append_left _ h9), Ne.symm (pz_nef hnsa (l_in_new _ _)), by rw [ef25, ef23, ef21, ef19, ef17, ef15, ef13, ef11, ef5, ef7, ef3, bx_uu, bx_uu, bx_uu, bx_uu, bx_uu, bx_uu, bx_uu, pz_up_comm _ _ _ (Ne.symm (pz_nef hnsa (l_in_new _ _))), bx_uu]; rfl⟩ d_OP_init_52
set_option maxHeartbeats 4000000 in
set_option maxRecDepth 100000 in
/-- EndedPage(o, to) -/
theorem c_EP_init (l : Launch) (G : gG) (L : List Nat) (f : Nat → va_E) (sz : Nat) (e9 o to sa to2 fr : Nat) (P : Op) (T T2 : Tt) (F : Fr) (i1 i2 i3 i4 i5 i6 : Int32) (j1 j2 : Int64) (he9 : e9 ∈ L) (hfe : f e9 = .inr (9, [.null, .int i1, .int i2, .int i3, .int i4, .int i5, .long j1, .int i6, .long j2])) (ho : o ∈ L) (hfo : f o = opE to2 fr P) (ht : to ∈ L) (hft : f to = toE sa T) (hs9 : sa ∈ L) (hsa : f sa = saE G T) (hr9 : fr ∈ L) (hfr : f fr = frE F) : mV l y_EP_init w_EP_init ({ frames := 1, cells := 0, slots := 0, locals := 21 }) G L f sz [.ref e9, .ref o, .ref to] 0 0 (fun u => u = (L, va_up f e9 (pgE fr (g_set P F.1 T)))) := by
  refine pz_met (cc := prog_3_method_1_code) (maxL := 3) (ret := none) (by decide) rfl (Nat.le_of_ble_eq_true rfl) ?_
  intro p e s m below meth c ls hx hb hr hml hts hown hlocks hin hsz hK hP hD hS hA hz hl
  have htb : ∀ w ∈ TB, w.before _ s = true := fun w h => hts w (List.mem_cons_of_mem _ h)
  have hl : lv_has ls 3 [(0, .ref e9), (1, .ref o), (2, .ref to)] := hl
  refine lv_aload_n hx hb d_EP_init_0 rfl (lv_at hl 0 rfl) ?_
  refine W.objInit hx hb hown (htb _ tw_486) (htb _ tw_33) (htb _ tw_34) rfl (by rw [hml]; exact hl.1) rfl d_EP_init_1 (Nat.le_of_ble_eq_true rfl) (Nat.le_of_ble_eq_true rfl) ?_
  refine W.eq (g2 := F0 m 4 ls []) rfl ?_
  refine lv_aload_n hx hb d_EP_init_4 rfl (lv_at hl 0 rfl) ?_
  refine lv_aload_n hx hb d_EP_init_5 rfl (lv_at hl 1 rfl) ?_
  refine pz_get (ci := 2) (C := "PageMaker$OpenPage") (T := T_OP) (N := 8) hx hb htb in_OP hown hK hP ho hfo rfl 1 (by decide) (htb _ tw_125) (fun _ h9 => h9) rfl d_EP_init_6 ?_
  refine pz_putF (ci := 9) (v := .ref fr) (ty := .object "PageMaker$Frame") (C := "PageMaker$EndedPage") (T := T_EP) (N := 9) hx hb htb in_EP ty_EP to_EP nm_EP hown hK hP hD hS he9 hfe rfl 0 (by decide) (htb _ tw_488) (fun _ h9 => h9) rfl hin rfl rfl rfl rfl (Nat.le_of_ble_eq_true rfl) d_EP_init_9 (fun f1 H locs ef1 hP hD hS => ?_)
  have ef1 : f1 = va_up f e9 (.inr (9, [.ref fr, .int i1, .int i2, .int i3, .int i4, .int i5, .long j1, .int i6, .long j2])) := ef1
  refine lv_aload_n hx hb d_EP_init_12 rfl (lv_at hl 0 rfl) ?_
  refine lv_aload_n hx hb d_EP_init_13 rfl (lv_at hl 1 rfl) ?_
  have h_2 : f1 o = .inr (2, [.ref to2, .ref fr, .int P.1, .long P.2.1, .int P.2.2.1, .int P.2.2.2.1, .int P.2.2.2.2.1, .int P.2.2.2.2.2]) := by rw [ef1, va_up_ne _ _ (pz_nec hfo hfe (by decide))]; exact hfo
  refine pz_get (ci := 2) (C := "PageMaker$OpenPage") (T := T_OP) (N := 8) hx hb htb in_OP hown hK hP ho h_2 rfl 2 (by decide) (htb _ tw_128) (fun _ h9 => h9) rfl d_EP_init_14 ?_
  have h_3 : f1 e9 = .inr (9, [.ref fr, .int i1, .int i2, .int i3, .int i4, .int i5, .long j1, .int i6, .long j2]) := by rw [ef1]; exact va_up_self _ _ _
  refine pz_putF (ci := 9) (v := .int P.1) (ty := .int) (C := "PageMaker$EndedPage") (T := T_EP) (N := 9) hx hb htb in_EP ty_EP to_EP nm_EP hown hK hP hD hS he9 h_3 rfl 1 (by decide) (htb _ tw_490) (fun _ h9 => h9) rfl hin rfl rfl rfl rfl (Nat.le_of_ble_eq_true rfl) d_EP_init_17 (fun f4 H locs ef4 hP hD hS => ?_)
  have ef4 : f4 = va_up f1 e9 (.inr (9, [.ref fr, .int P.1, .int i2, .int i3, .int i4, .int i5, .long j1, .int i6, .long j2])) := ef4
  refine lv_aload_n hx hb d_EP_init_20 rfl (lv_at hl 0 rfl) ?_
  refine lv_aload_n hx hb d_EP_init_21 rfl (lv_at hl 1 rfl) ?_
  have h_5 : f4 o = .inr (2, [.ref to2, .ref fr, .int P.1, .long P.2.1, .int P.2.2.1, .int P.2.2.2.1, .int P.2.2.2.2.1, .int P.2.2.2.2.2]) := by rw [ef4, va_up_ne _ _ (pz_nec hfo hfe (by decide))]; exact h_2
  refine pz_get (ci := 2) (C := "PageMaker$OpenPage") (T := T_OP) (N := 8) hx hb htb in_OP hown hK hP ho h_5 rfl 4 (by decide) (htb _ tw_133) (fun _ h9 => h9) rfl d_EP_init_22 ?_
  have h_6 : f4 e9 = .inr (9, [.ref fr, .int P.1, .int i2, .int i3, .int i4, .int i5, .long j1, .int i6, .long j2]) := by rw [ef4]; exact va_up_self _ _ _
  refine pz_putF (ci := 9) (v := .int P.2.2.1) (ty := .int) (C := "PageMaker$EndedPage") (T := T_EP) (N := 9) hx hb htb in_EP ty_EP to_EP nm_EP hown hK hP hD hS he9 h_6 rfl 2 (by decide) (htb _ tw_492) (fun _ h9 => h9) rfl hin rfl rfl rfl rfl (Nat.le_of_ble_eq_true rfl) d_EP_init_25 (fun f7 H locs ef7 hP hD hS => ?_)
  have ef7 : f7 = va_up f4 e9 (.inr (9, [.ref fr, .int P.1, .int P.2.2.1, .int i3, .int i4, .int i5, .long j1, .int i6, .long j2])) := ef7
  refine lv_aload_n hx hb d_EP_init_28 rfl (lv_at hl 0 rfl) ?_
  refine lv_aload_n hx hb d_EP_init_29 rfl (lv_at hl 1 rfl) ?_
  have h_8 : f7 o = .inr (2, [.ref to2, .ref fr, .int P.1, .long P.2.1, .int P.2.2.1, .int P.2.2.2.1, .int P.2.2.2.2.1, .int P.2.2.2.2.2]) := by rw [ef7, va_up_ne _ _ (pz_nec hfo hfe (by decide))]; exact h_5
  refine pz_get (ci := 2) (C := "PageMaker$OpenPage") (T := T_OP) (N := 8) hx hb htb in_OP hown hK hP ho h_8 rfl 5 (by decide) (htb _ tw_136) (fun _ h9 => h9) rfl d_EP_init_30 ?_
  have h_9 : f7 e9 = .inr (9, [.ref fr, .int P.1, .int P.2.2.1, .int i3, .int i4, .int i5, .long j1, .int i6, .long j2]) := by rw [ef7]; exact va_up_self _ _ _
  refine pz_putF (ci := 9) (v := .int P.2.2.2.1) (ty := .int) (C := "PageMaker$EndedPage") (T := T_EP) (N := 9) hx hb htb in_EP ty_EP to_EP nm_EP hown hK hP hD hS he9 h_9 rfl 3 (by decide) (htb _ tw_494) (fun _ h9 => h9) rfl hin rfl rfl rfl rfl (Nat.le_of_ble_eq_true rfl) d_EP_init_33 (fun f10 H locs ef10 hP hD hS => ?_)
  have ef10 : f10 = va_up f7 e9 (.inr (9, [.ref fr, .int P.1, .int P.2.2.1, .int P.2.2.2.1, .int i4, .int i5, .long j1, .int i6, .long j2])) := ef10
  refine lv_aload_n hx hb d_EP_init_36 rfl (lv_at hl 0 rfl) ?_
  refine lv_aload_n hx hb d_EP_init_37 rfl (lv_at hl 1 rfl) ?_
  have h_11 : f10 o = .inr (2, [.ref to2, .ref fr, .int P.1, .long P.2.1, .int P.2.2.1, .int P.2.2.2.1, .int P.2.2.2.2.1, .int P.2.2.2.2.2]) := by rw [ef10, va_up_ne _ _ (pz_nec hfo hfe (by decide))]; exact h_8
  refine pz_get (ci := 2) (C := "PageMaker$OpenPage") (T := T_OP) (N := 8) hx hb htb in_OP hown hK hP ho h_11 rfl 6 (by decide) (htb _ tw_139) (fun _ h9 => h9) rfl d_EP_init_38 ?_
  have h_12 : f10 e9 = .inr (9, [.ref fr, .int P.1, .int P.2.2.1, .int P.2.2.2.1, .int i4, .int i5, .long j1, .int i6, .long j2]) := by rw [ef10]; exact va_up_self _ _ _
  refine pz_putF (ci := 9) (v := .int P.2.2.2.2.1) (ty := .int) (C := "PageMaker$EndedPage") (T := T_EP) (N := 9) hx hb htb in_EP ty_EP to_EP nm_EP hown hK hP hD hS he9 h_12 rfl 4 (by decide) (htb _ tw_496) (fun _ h9 => h9) rfl hin rfl rfl rfl rfl (Nat.le_of_ble_eq_true rfl) d_EP_init_41 (fun f13 H locs ef13 hP hD hS => ?_)
  have ef13 : f13 = va_up f10 e9 (.inr (9, [.ref fr, .int P.1, .int P.2.2.1, .int P.2.2.2.1, .int P.2.2.2.2.1, .int i5, .long j1, .int i6, .long j2])) := ef13
  refine lv_aload_n hx hb d_EP_init_44 rfl (lv_at hl 0 rfl) ?_
  refine lv_aload_n hx hb d_EP_init_45 rfl (lv_at hl 1 rfl) ?_
  have h_14 : f13 o = .inr (2, [.ref to2, .ref fr, .int P.1, .long P.2.1, .int P.2.2.1, .int P.2.2.2.1, .int P.2.2.2.2.1, .int P.2.2.2.2.2]) := by rw [ef13, va_up_ne _ _ (pz_nec hfo hfe (by decide))]; exact h_11
  refine pz_get (ci := 2) (C := "PageMaker$OpenPage") (T := T_OP) (N := 8) hx hb htb in_OP hown hK hP ho h_14 rfl 7 (by decide) (htb _ tw_142) (fun _ h9 => h9) rfl d_EP_init_46 ?_
  have h_15 : f13 e9 = .inr (9, [.ref fr, .int P.1, .int P.2.2.1, .int P.2.2.2.1, .int P.2.2.2.2.1, .int i5, .long j1, .int i6, .long j2]) := by rw [ef13]; exact va_up_self _ _ _
  refine pz_putF (ci := 9) (v := .int P.2.2.2.2.2) (ty := .int) (C := "PageMaker$EndedPage") (T := T_EP) (N := 9) hx hb htb in_EP ty_EP to_EP nm_EP hown hK hP hD hS he9 h_15 rfl 5 (by decide) (htb _ tw_498) (fun _ h9 => h9) rfl hin rfl rfl rfl rfl (Nat.le_of_ble_eq_true rfl) d_EP_init_49 (fun f16 H locs ef16 hP hD hS => ?_)
  have ef16 : f16 = va_up f13 e9 (.inr (9, [.ref fr, .int P.1, .int P.2.2.1, .int P.2.2.2.1, .int P.2.2.2.2.1, .int P.2.2.2.2.2, .long j1, .int i6, .long j2])) := ef16
  refine lv_aload_n hx hb d_EP_init_52 rfl (lv_at hl 0 rfl) ?_
  refine lv_aload_n hx hb d_EP_init_53 rfl (lv_at hl 1 rfl) ?_
  have h_17 : f16 o = .inr (2, [.ref to2, .ref fr, .int P.1, .long P.2.1, .int P.2.2.1, .int P.2.2.2.1, .int P.2.2.2.2.1, .int P.2.2.2.2.2]) := by rw [ef16, va_up_ne _ _ (pz_nec hfo hfe (by decide))]; exact h_14
  refine pz_get (ci := 2) (C := "PageMaker$OpenPage") (T := T_OP) (N := 8) hx hb htb in_OP hown hK hP ho h_17 rfl 1 (by decide) (htb _ tw_125) (fun _ h9 => h9) rfl d_EP_init_54 ?_
  have h_23 : f1 fr = .inr (1, [.int F.1, .int F.2.1, .int F.2.2]) := by rw [ef1, va_up_ne _ _ (pz_nec hfr hfe (by decide))]; exact hfr
  have h_22 : f4 fr = .inr (1, [.int F.1, .int F.2.1, .int F.2.2]) := by rw [ef4, va_up_ne _ _ (pz_nec hfr hfe (by decide))]; exact h_23
  have h_21 : f7 fr = .inr (1, [.int F.1, .int F.2.1, .int F.2.2]) := by rw [ef7, va_up_ne _ _ (pz_nec hfr hfe (by decide))]; exact h_22
  have h_20 : f10 fr = .inr (1, [.int F.1, .int F.2.1, .int F.2.2]) := by rw [ef10, va_up_ne _ _ (pz_nec hfr hfe (by decide))]; exact h_21
  have h_19 : f13 fr = .inr (1, [.int F.1, .int F.2.1, .int F.2.2]) := by rw [ef13, va_up_ne _ _ (pz_nec hfr hfe (by decide))]; exact h_20
  have h_18 : f16 fr = .inr (1, [.int F.1, .int F.2.1, .int F.2.2]) := by rw [ef16, va_up_ne _ _ (pz_nec hfr hfe (by decide))]; exact h_19
  refine pz_get (ci := 1) (C := "PageMaker$Frame") (T := T_FR) (N := 3) hx hb htb in_FR hown hK hP hr9 h_18 rfl 0 (by decide) (htb _ tw_71) (fun _ h9 => h9) rfl d_EP_init_57 ?_
  refine lv_i2l hx hb d_EP_init_60 rfl ?_
  refine lv_aload_n hx hb d_EP_init_61 rfl (lv_at hl 2 rfl) ?_
  have h_29 : f1 to = .inr (3, [.ref sa, .long T.1, .long T.2.1, .long T.2.2.1]) := by rw [ef1, va_up_ne _ _ (pz_nec hft hfe (by decide))]; exact hft
  have h_28 : f4 to = .inr (3, [.ref sa, .long T.1, .long T.2.1, .long T.2.2.1]) := by rw [ef4, va_up_ne _ _ (pz_nec hft hfe (by decide))]; exact h_29
  have h_27 : f7 to = .inr (3, [.ref sa, .long T.1, .long T.2.1, .long T.2.2.1]) := by rw [ef7, va_up_ne _ _ (pz_nec hft hfe (by decide))]; exact h_28
  have h_26 : f10 to = .inr (3, [.ref sa, .long T.1, .long T.2.1, .long T.2.2.1]) := by rw [ef10, va_up_ne _ _ (pz_nec hft hfe (by decide))]; exact h_27
  have h_25 : f13 to = .inr (3, [.ref sa, .long T.1, .long T.2.1, .long T.2.2.1]) := by rw [ef13, va_up_ne _ _ (pz_nec hft hfe (by decide))]; exact h_26
  have h_24 : f16 to = .inr (3, [.ref sa, .long T.1, .long T.2.1, .long T.2.2.1]) := by rw [ef16, va_up_ne _ _ (pz_nec hft hfe (by decide))]; exact h_25
  refine pz_get (ci := 3) (C := "PageMaker$Totals") (T := T_TO) (N := 4) hx hb htb in_TO hown hK hP ht h_24 rfl 1 (by decide) (htb _ tw_101) (fun _ h9 => h9) rfl d_EP_init_62 ?_
  refine lv_lsub hx hb d_EP_init_65 ?_
  have h_30 : f16 e9 = .inr (9, [.ref fr, .int P.1, .int P.2.2.1, .int P.2.2.2.1, .int P.2.2.2.2.1, .int P.2.2.2.2.2, .long j1, .int i6, .long j2]) := by rw [ef16]; exact va_up_self _ _ _
  refine pz_putF (ci := 9) (v := .long (F.1.toInt64 - T.1)) (ty := .long) (C := "PageMaker$EndedPage") (T := T_EP) (N := 9) hx hb htb in_EP ty_EP to_EP nm_EP hown hK hP hD hS he9 h_30 rfl 6 (by decide) (htb _ tw_500) (fun _ h9 => h9) rfl hin rfl rfl rfl rfl (Nat.le_of_ble_eq_true rfl) d_EP_init_66 (fun f31 H locs ef31 hP hD hS => ?_)
  have ef31 : f31 = va_up f16 e9 (.inr (9, [.ref fr, .int P.1, .int P.2.2.1, .int P.2.2.2.1, .int P.2.2.2.2.1, .int P.2.2.2.2.2, .long (F.1.toInt64 - T.1), .int i6, .long j2])) := ef31
  refine lv_aload_n hx hb d_EP_init_69 rfl (lv_at hl 0 rfl) ?_
  refine lv_aload_n hx hb d_EP_init_70 rfl (lv_at hl 0 rfl) ?_
  have h_32 : f31 e9 = .inr (9, [.ref fr, .int P.1, .int P.2.2.1, .int P.2.2.2.1, .int P.2.2.2.2.1, .int P.2.2.2.2.2, .long (F.1.toInt64 - T.1), .int i6, .long j2]) := by rw [ef31]; exact va_up_self _ _ _
  refine pz_get (ci := 9) (C := "PageMaker$EndedPage") (T := T_EP) (N := 9) hx hb htb in_EP hown hK hP he9 h_32 rfl 6 (by decide) (htb _ tw_500) (fun _ h9 => h9) rfl d_EP_init_71 ?_
  refine lv_lconst (v := 0) hx hb d_EP_init_74 rfl ?_
  refine pz_lle (tgt := 86) hx hb d_EP_init_75 d_EP_init_76 (by decide) (fun c_33 => ?_) (fun c_33 => ?_)
  · refine lv_iconst (v := 0) hx hb d_EP_init_86 (by decide) ?_
    refine pz_putF (ci := 9) (v := .int 0) (ty := .int) (C := "PageMaker$EndedPage") (T := T_EP) (N := 9) hx hb htb in_EP ty_EP to_EP nm_EP hown hK hP hD hS he9 h_32 rfl 7 (by decide) (htb _ tw_502) (fun _ h9 => h9) rfl hin rfl rfl rfl rfl (Nat.le_of_ble_eq_true rfl) d_EP_init_87 (fun f34 H locs ef34 hP hD hS => ?_)
    have ef34 : f34 = va_up f31 e9 (.inr (9, [.ref fr, .int P.1, .int P.2.2.1, .int P.2.2.2.1, .int P.2.2.2.2.1, .int P.2.2.2.2.2, .long (F.1.toInt64 - T.1), .int 0, .long j2])) := ef34
    refine lv_aload_n hx hb d_EP_init_90 rfl (lv_at hl 0 rfl) ?_
    have h_35 : f34 e9 = .inr (9, [.ref fr, .int P.1, .int P.2.2.1, .int P.2.2.2.1, .int P.2.2.2.2.1, .int P.2.2.2.2.2, .long (F.1.toInt64 - T.1), .int 0, .long j2]) := by rw [ef34]; exact va_up_self _ _ _
    refine pz_get (ci := 9) (C := "PageMaker$EndedPage") (T := T_EP) (N := 9) hx hb htb in_EP hown hK hP he9 h_35 rfl 6 (by decide) (htb _ tw_500) (fun _ h9 => h9) rfl d_EP_init_91 ?_
    refine lv_lconst (v := 0) hx hb d_EP_init_94 rfl ?_
    refine pz_lle (tgt := 115) hx hb d_EP_init_95 d_EP_init_96 (by decide) (fun c_36 => ?_) (fun c_36 => ?_)
    · refine lv_aload_n hx hb d_EP_init_115 rfl (lv_at hl 0 rfl) ?_
      refine lv_aload_n hx hb d_EP_init_116 rfl (lv_at hl 0 rfl) ?_
      refine pz_get (ci := 9) (C := "PageMaker$EndedPage") (T := T_EP) (N := 9) hx hb htb in_EP hown hK hP he9 h_35 rfl 6 (by decide) (htb _ tw_500) (fun _ h9 => h9) rfl d_EP_init_117 ?_
      refine lv_lconst (v := 0) hx hb d_EP_init_120 rfl ?_
      refine pz_lge (tgt := 132) hx hb d_EP_init_121 d_EP_init_122 (by decide) (fun c_37 => ?_) (fun c_37 => ?_)
      · refine lv_lconst (v := 0) hx hb d_EP_init_132 rfl ?_
        refine pz_putF (ci := 9) (v := .long 0) (ty := .long) (C := "PageMaker$EndedPage") (T := T_EP) (N := 9) hx hb htb in_EP ty_EP to_EP nm_EP hown hK hP hD hS he9 h_35 rfl 8 (by decide) (htb _ tw_504) (fun _ h9 => h9) rfl hin rfl rfl rfl rfl (Nat.le_of_ble_eq_true rfl) d_EP_init_133 (fun f38 H locs ef38 hP hD hS => ?_)
        have ef38 : f38 = va_up f34 e9 (.inr (9, [.ref fr, .int P.1, .int P.2.2.1, .int P.2.2.2.1, .int P.2.2.2.2.1, .int P.2.2.2.2.2, .long (F.1.toInt64 - T.1), .int 0, .long 0])) := ef38
        exact pz_vret hx hb hr hlocks hK hP hD hS (Nat.le_of_ble_eq_true rfl) (Nat.le_of_ble_eq_true rfl) (by rw [ef38, ef34, ef31, ef16, ef13, ef10, ef7, ef4, ef1, bx_uu, bx_uu, bx_uu, bx_uu, bx_uu, bx_uu, bx_uu, bx_uu]; simp only [pgE, g_set, k_ord, k_tot, if_neg (k_nlt c_33), if_neg (k_nlt c_37)]) d_EP_init_136
      · refine lv_aload_n hx hb d_EP_init_125 rfl (lv_at hl 2 rfl) ?_
        have h_40 : f31 to = .inr (3, [.ref sa, .long T.1, .long T.2.1, .long T.2.2.1]) := by rw [ef31, va_up_ne _ _ (pz_nec hft hfe (by decide))]; exact h_24
        have h_39 : f34 to = .inr (3, [.ref sa, .long T.1, .long T.2.1, .long T.2.2.1]) := by rw [ef34, va_up_ne _ _ (pz_nec hft hfe (by decide))]; exact h_40
        refine pz_get (ci := 3) (C := "PageMaker$Totals") (T := T_TO) (N := 4) hx hb htb in_TO hown hK hP ht h_39 rfl 3 (by decide) (htb _ tw_109) (fun _ h9 => h9) rfl d_EP_init_126 ?_
        refine lv_goto (tgt := 133) hx hb d_EP_init_129 (by decide) ?_
        refine pz_putF (ci := 9) (v := .long T.2.2.1) (ty := .long) (C := "PageMaker$EndedPage") (T := T_EP) (N := 9) hx hb htb in_EP ty_EP to_EP nm_EP hown hK hP hD hS he9 h_35 rfl 8 (by decide) (htb _ tw_504) (fun _ h9 => h9) rfl hin rfl rfl rfl rfl (Nat.le_of_ble_eq_true rfl) d_EP_init_133 (fun f41 H locs ef41 hP hD hS => ?_)
        have ef41 : f41 = va_up f34 e9 (.inr (9, [.ref fr, .int P.1, .int P.2.2.1, .int P.2.2.2.1, .int P.2.2.2.2.1, .int P.2.2.2.2.2, .long (F.1.toInt64 - T.1), .int 0, .long T.2.2.1])) := ef41
        exact pz_vret hx hb hr hlocks hK hP hD hS (Nat.le_of_ble_eq_true rfl) (Nat.le_of_ble_eq_true rfl) (by rw [ef41, ef34, ef31, ef16, ef13, ef10, ef7, ef4, ef1, bx_uu, bx_uu, bx_uu, bx_uu, bx_uu, bx_uu, bx_uu, bx_uu]; simp only [pgE, g_set, k_ord, k_tot, if_neg (k_nlt c_33), if_pos c_37]) d_EP_init_136
    · exact absurd c_36 (k_nlt c_33)
  · refine lv_aload_n hx hb d_EP_init_79 rfl (lv_at hl 2 rfl) ?_
    have h_42 : f31 to = .inr (3, [.ref sa, .long T.1, .long T.2.1, .long T.2.2.1]) := by rw [ef31, va_up_ne _ _ (pz_nec hft hfe (by decide))]; exact h_24
    have h_49 : f1 sa = .inl (cJ G, 4, .inr (.inl T.2.2.2)) := by rw [ef1, va_up_ne _ _ (pz_nea hsa hfe)]; exact hsa
    have h_48 : f4 sa = .inl (cJ G, 4, .inr (.inl T.2.2.2)) := by rw [ef4, va_up_ne _ _ (pz_nea hsa hfe)]; exact h_49
    have h_47 : f7 sa = .inl (cJ G, 4, .inr (.inl T.2.2.2)) := by rw [ef7, va_up_ne _ _ (pz_nea hsa hfe)]; exact h_48
    have h_46 : f10 sa = .inl (cJ G, 4, .inr (.inl T.2.2.2)) := by rw [ef10, va_up_ne _ _ (pz_nea hsa hfe)]; exact h_47
    have h_45 : f13 sa = .inl (cJ G, 4, .inr (.inl T.2.2.2)) := by rw [ef13, va_up_ne _ _ (pz_nea hsa hfe)]; exact h_46
    have h_44 : f16 sa = .inl (cJ G, 4, .inr (.inl T.2.2.2)) := by rw [ef16, va_up_ne _ _ (pz_nea hsa hfe)]; exact h_45
    have h_43 : f31 sa = .inl (cJ G, 4, .inr (.inl T.2.2.2)) := by rw [ef31, va_up_ne _ _ (pz_nea hsa hfe)]; exact h_44
    refine vp_callSi (va_Run.run (va_runV (As := []) (rest := [.ref e9]) ⟨hx, hb, hml, hown, hts⟩ (c_TO_greatestOrder l G L f31 _ to sa T.1 T.2.1 T.2.2.1 T.2.2.2 ht h_42 hs9 h_43) (cwV 0 hts (tb_V tw_487 tw_423 tw_424 tw_7 tw_425) rfl rfl rfl (by decide +kernel) ⟨(Nat.le_of_ble_eq_true rfl), (Nat.le_of_ble_eq_true rfl)⟩) (pz_preV (zz_ok _ _ _) hK hP hD hS hA hz (ci := 3) rfl rfl ht h_42) rfl rfl hl.1 rfl (lv_room (Nat.le_of_ble_eq_true rfl)) d_EP_init_80 ⟨(Nat.le_of_ble_eq_true rfl), (Nat.le_of_ble_eq_true rfl)⟩)) (fun r50 hw => ?_)
    have hw : r50 = (k_go T.2.2.2) := hw
    subst r50
    refine lv_goto (tgt := 87) hx hb d_EP_init_83 (by decide) ?_
    refine pz_putF (ci := 9) (v := .int (k_go T.2.2.2)) (ty := .int) (C := "PageMaker$EndedPage") (T := T_EP) (N := 9) hx hb htb in_EP ty_EP to_EP nm_EP hown hK hP hD hS he9 h_32 rfl 7 (by decide) (htb _ tw_502) (fun _ h9 => h9) rfl hin rfl rfl rfl rfl (Nat.le_of_ble_eq_true rfl) d_EP_init_87 (fun f51 H locs ef51 hP hD hS => ?_)
    have ef51 : f51 = va_up f31 e9 (.inr (9, [.ref fr, .int P.1, .int P.2.2.1, .int P.2.2.2.1, .int P.2.2.2.2.1, .int P.2.2.2.2.2, .long (F.1.toInt64 - T.1), .int (k_go T.2.2.2), .long j2])) := ef51
    refine lv_aload_n hx hb d_EP_init_90 rfl (lv_at hl 0 rfl) ?_
    have h_52 : f51 e9 = .inr (9, [.ref fr, .int P.1, .int P.2.2.1, .int P.2.2.2.1, .int P.2.2.2.2.1, .int P.2.2.2.2.2, .long (F.1.toInt64 - T.1), .int (k_go T.2.2.2), .long j2]) := by rw [ef51]; exact va_up_self _ _ _
    refine pz_get (ci := 9) (C := "PageMaker$EndedPage") (T := T_EP) (N := 9) hx hb htb in_EP hown hK hP he9 h_52 rfl 6 (by decide) (htb _ tw_500) (fun _ h9 => h9) rfl d_EP_init_91 ?_
    refine lv_lconst (v := 0) hx hb d_EP_init_94 rfl ?_
    refine pz_lle (tgt := 115) hx hb d_EP_init_95 d_EP_init_96 (by decide) (fun c_53 => ?_) (fun c_53 => ?_)
    · exact absurd c_33 (k_nlt c_53)
    · refine lv_aload_n hx hb d_EP_init_99 rfl (lv_at hl 0 rfl) ?_
      refine lv_aload_n hx hb d_EP_init_100 rfl (lv_at hl 2 rfl) ?_
      have h_54 : f51 to = .inr (3, [.ref sa, .long T.1, .long T.2.1, .long T.2.2.1]) := by rw [ef51, va_up_ne _ _ (pz_nec hft hfe (by decide))]; exact h_42
      refine pz_get (ci := 3) (C := "PageMaker$Totals") (T := T_TO) (N := 4) hx hb htb in_TO hown hK hP ht h_54 rfl 0 (by decide) (htb _ tw_97) (fun _ h9 => h9) rfl d_EP_init_101 ?_
      refine lv_aload_n hx hb d_EP_init_104 rfl (lv_at hl 0 rfl) ?_
      refine pz_get (ci := 9) (C := "PageMaker$EndedPage") (T := T_EP) (N := 9) hx hb htb in_EP hown hK hP he9 h_52 rfl 7 (by decide) (htb _ tw_502) (fun _ h9 => h9) rfl d_EP_init_105 ?_
      have h_55 : f51 sa = .inl (cJ G, 4, .inr (.inl T.2.2.2)) := by rw [ef51, va_up_ne _ _ (pz_nea hsa hfe)]; exact h_43
      have hin56 : vp_in (k_go T.2.2.2) 4 := k_go_in _
      refine pz_lald hx hb hK hP 1 hs9 h_55 rfl hin56 d_EP_init_108 ?_
      refine pz_putF (ci := 9) (v := .long (T.2.2.2 (k_go T.2.2.2).toNatClampNeg)) (ty := .long) (C := "PageMaker$EndedPage") (T := T_EP) (N := 9) hx hb htb in_EP ty_EP to_EP nm_EP hown hK hP hD hS he9 h_52 rfl 8 (by decide) (htb _ tw_504) (fun _ h9 => h9) rfl hin rfl rfl rfl rfl (Nat.le_of_ble_eq_true rfl) d_EP_init_109 (fun f57 H locs ef57 hP hD hS => ?_)
      have ef57 : f57 = va_up f51 e9 (.inr (9, [.ref fr, .int P.1, .int P.2.2.1, .int P.2.2.2.1, .int P.2.2.2.2.1, .int P.2.2.2.2.2, .long (F.1.toInt64 - T.1), .int (k_go T.2.2.2), .long (T.2.2.2 (k_go T.2.2.2).toNatClampNeg)])) := ef57
      refine lv_goto (tgt := 136) hx hb d_EP_init_112 (by decide) ?_
      exact pz_vret hx hb hr hlocks hK hP hD hS (Nat.le_of_ble_eq_true rfl) (Nat.le_of_ble_eq_true rfl) (by rw [ef57, ef51, ef31, ef16, ef13, ef10, ef7, ef4, ef1, bx_uu, bx_uu, bx_uu, bx_uu, bx_uu, bx_uu, bx_uu, bx_uu]; simp only [pgE, g_set, k_ord, k_tot, if_pos c_33]) d_EP_init_136
end
section
/-! methods of the JDK that lists need -/
def y_AL_init : MethodName := ⟨"java/util/ArrayList", "<init>", "()V"⟩
def w_AL_init : List Cond := .code y_AL_init prog_27_method_2_code 1 none :: TB
theorem d_AL_init_0 : decode prog_27_method_2_code 0 = .ok (.aload_n 0, 1) := by decide +kernel
theorem d_AL_init_1 : decode prog_27_method_2_code 1 = .ok (.invokespecial 1, 3) := by decide +kernel
theorem d_AL_init_4 : decode prog_27_method_2_code 4 = .ok (.aload_n 0, 1) := by decide +kernel
theorem d_AL_init_5 : decode prog_27_method_2_code 5 = .ok (.getstatic 39, 3) := by decide +kernel
theorem d_AL_init_8 : decode prog_27_method_2_code 8 = .ok (.putfield 9, 3) := by decide +kernel
theorem d_AL_init_11 : decode prog_27_method_2_code 11 = .ok (.return_, 1) := by decide +kernel
def y_AL_add0 : MethodName := ⟨"java/util/ArrayList", "add", "(Ljava/lang/Object;)Z"⟩
def w_AL_add0 : List Cond := .code y_AL_add0 prog_27_method_25_code 2 (some .boolean) :: TB
theorem d_AL_add0_0 : decode prog_27_method_25_code 0 = .ok (.aload_n 0, 1) := by decide +kernel
theorem d_AL_add0_1 : decode prog_27_method_25_code 1 = .ok (.dup, 1) := by decide +kernel
theorem d_AL_add0_2 : decode prog_27_method_25_code 2 = .ok (.getfield 63, 3) := by decide +kernel
theorem d_AL_add0_5 : decode prog_27_method_25_code 5 = .ok (.iconst 1, 1) := by decide +kernel
theorem d_AL_add0_6 : decode prog_27_method_25_code 6 = .ok (.iadd, 1) := by decide +kernel
theorem d_AL_add0_7 : decode prog_27_method_25_code 7 = .ok (.putfield 63, 3) := by decide +kernel
theorem d_AL_add0_10 : decode prog_27_method_25_code 10 = .ok (.aload_n 0, 1) := by decide +kernel
theorem d_AL_add0_11 : decode prog_27_method_25_code 11 = .ok (.aload_n 1, 1) := by decide +kernel
theorem d_AL_add0_12 : decode prog_27_method_25_code 12 = .ok (.aload_n 0, 1) := by decide +kernel
theorem d_AL_add0_13 : decode prog_27_method_25_code 13 = .ok (.getfield 9, 3) := by decide +kernel
theorem d_AL_add0_16 : decode prog_27_method_25_code 16 = .ok (.aload_n 0, 1) := by decide +kernel
theorem d_AL_add0_17 : decode prog_27_method_25_code 17 = .ok (.getfield 48, 3) := by decide +kernel
theorem d_AL_add0_20 : decode prog_27_method_25_code 20 = .ok (.invokevirtual 131, 3) := by decide +kernel
theorem d_AL_add0_23 : decode prog_27_method_25_code 23 = .ok (.iconst 1, 1) := by decide +kernel
theorem d_AL_add0_24 : decode prog_27_method_25_code 24 = .ok (.ireturn, 1) := by decide +kernel
def y_AL_add1 : MethodName := ⟨"java/util/ArrayList", "add", "(Ljava/lang/Object;[Ljava/lang/Object;I)V"⟩
def w_AL_add1 : List Cond := .code y_AL_add1 prog_27_method_24_code 4 none :: TB
theorem d_AL_add1_0 : decode prog_27_method_24_code 0 = .ok (.iload_n 3, 1) := by decide +kernel
theorem d_AL_add1_1 : decode prog_27_method_24_code 1 = .ok (.aload_n 2, 1) := by decide +kernel
theorem d_AL_add1_2 : decode prog_27_method_24_code 2 = .ok (.arraylength, 1) := by decide +kernel
theorem d_AL_add1_3 : decode prog_27_method_24_code 3 = .ok (.if_icmp .ne 8, 3) := by decide +kernel
theorem d_AL_add1_6 : decode prog_27_method_24_code 6 = .ok (.aload_n 0, 1) := by decide +kernel
theorem d_AL_add1_7 : decode prog_27_method_24_code 7 = .ok (.invokevirtual 129, 3) := by decide +kernel
theorem d_AL_add1_10 : decode prog_27_method_24_code 10 = .ok (.astore_n 2, 1) := by decide +kernel
theorem d_AL_add1_11 : decode prog_27_method_24_code 11 = .ok (.aload_n 2, 1) := by decide +kernel
theorem d_AL_add1_12 : decode prog_27_method_24_code 12 = .ok (.iload_n 3, 1) := by decide +kernel
theorem d_AL_add1_13 : decode prog_27_method_24_code 13 = .ok (.aload_n 1, 1) := by decide +kernel
theorem d_AL_add1_14 : decode prog_27_method_24_code 14 = .ok (.aastore, 1) := by decide +kernel
theorem d_AL_add1_15 : decode prog_27_method_24_code 15 = .ok (.aload_n 0, 1) := by decide +kernel
theorem d_AL_add1_16 : decode prog_27_method_24_code 16 = .ok (.iload_n 3, 1) := by decide +kernel
theorem d_AL_add1_17 : decode prog_27_method_24_code 17 = .ok (.iconst 1, 1) := by decide +kernel
theorem d_AL_add1_18 : decode prog_27_method_24_code 18 = .ok (.iadd, 1) := by decide +kernel
theorem d_AL_add1_19 : decode prog_27_method_24_code 19 = .ok (.putfield 48, 3) := by decide +kernel
theorem d_AL_add1_22 : decode prog_27_method_24_code 22 = .ok (.return_, 1) := by decide +kernel
def y_AL_elementData : MethodName := ⟨"java/util/ArrayList", "elementData", "(I)Ljava/lang/Object;"⟩
def w_AL_elementData : List Cond := .code y_AL_elementData prog_27_method_18_code 2 (some (.object "java/lang/Object")) :: TB
theorem d_AL_elementData_0 : decode prog_27_method_18_code 0 = .ok (.aload_n 0, 1) := by decide +kernel
theorem d_AL_elementData_1 : decode prog_27_method_18_code 1 = .ok (.getfield 9, 3) := by decide +kernel
theorem d_AL_elementData_4 : decode prog_27_method_18_code 4 = .ok (.iload_n 1, 1) := by decide +kernel
theorem d_AL_elementData_5 : decode prog_27_method_18_code 5 = .ok (.aaload, 1) := by decide +kernel
theorem d_AL_elementData_6 : decode prog_27_method_18_code 6 = .ok (.areturn, 1) := by decide +kernel
def y_AL_get : MethodName := ⟨"java/util/ArrayList", "get", "(I)Ljava/lang/Object;"⟩
def w_AL_get : List Cond := .code y_AL_get prog_27_method_20_code 2 (some (.object "java/lang/Object")) :: TB
theorem d_AL_get_0 : decode prog_27_method_20_code 0 = .ok (.iload_n 1, 1) := by decide +kernel
theorem d_AL_get_1 : decode prog_27_method_20_code 1 = .ok (.aload_n 0, 1) := by decide +kernel
theorem d_AL_get_2 : decode prog_27_method_20_code 2 = .ok (.getfield 48, 3) := by decide +kernel
theorem d_AL_get_5 : decode prog_27_method_20_code 5 = .ok (.invokestatic 118, 3) := by decide +kernel
theorem d_AL_get_8 : decode prog_27_method_20_code 8 = .ok (.pop, 1) := by decide +kernel
theorem d_AL_get_9 : decode prog_27_method_20_code 9 = .ok (.aload_n 0, 1) := by decide +kernel
theorem d_AL_get_10 : decode prog_27_method_20_code 10 = .ok (.iload_n 1, 1) := by decide +kernel
theorem d_AL_get_11 : decode prog_27_method_20_code 11 = .ok (.invokevirtual 123, 3) := by decide +kernel
theorem d_AL_get_14 : decode prog_27_method_20_code 14 = .ok (.areturn, 1) := by decide +kernel
def y_AL_grow0 : MethodName := ⟨"java/util/ArrayList", "grow", "()[Ljava/lang/Object;"⟩
def w_AL_grow0 : List Cond := .code y_AL_grow0 prog_27_method_7_code 1 (some (.array (.object "java/lang/Object"))) :: TB
theorem d_AL_grow0_0 : decode prog_27_method_7_code 0 = .ok (.aload_n 0, 1) := by decide +kernel
theorem d_AL_grow0_1 : decode prog_27_method_7_code 1 = .ok (.aload_n 0, 1) := by decide +kernel
theorem d_AL_grow0_2 : decode prog_27_method_7_code 2 = .ok (.getfield 48, 3) := by decide +kernel
theorem d_AL_grow0_5 : decode prog_27_method_7_code 5 = .ok (.iconst 1, 1) := by decide +kernel
theorem d_AL_grow0_6 : decode prog_27_method_7_code 6 = .ok (.iadd, 1) := by decide +kernel
theorem d_AL_grow0_7 : decode prog_27_method_7_code 7 = .ok (.invokevirtual 69, 3) := by decide +kernel
theorem d_AL_grow0_10 : decode prog_27_method_7_code 10 = .ok (.areturn, 1) := by decide +kernel
def y_AL_grow1 : MethodName := ⟨"java/util/ArrayList", "grow", "(I)[Ljava/lang/Object;"⟩
def w_AL_grow1 : List Cond := .code y_AL_grow1 prog_27_method_6_code 4 (some (.array (.object "java/lang/Object"))) :: TB
theorem d_AL_grow1_0 : decode prog_27_method_6_code 0 = .ok (.aload_n 0, 1) := by decide +kernel
theorem d_AL_grow1_1 : decode prog_27_method_6_code 1 = .ok (.getfield 9, 3) := by decide +kernel
theorem d_AL_grow1_4 : decode prog_27_method_6_code 4 = .ok (.arraylength, 1) := by decide +kernel
theorem d_AL_grow1_5 : decode prog_27_method_6_code 5 = .ok (.istore_n 2, 1) := by decide +kernel
theorem d_AL_grow1_6 : decode prog_27_method_6_code 6 = .ok (.iload_n 2, 1) := by decide +kernel
theorem d_AL_grow1_7 : decode prog_27_method_6_code 7 = .ok (.ifCond .gt 13, 3) := by decide +kernel
theorem d_AL_grow1_10 : decode prog_27_method_6_code 10 = .ok (.aload_n 0, 1) := by decide +kernel
theorem d_AL_grow1_11 : decode prog_27_method_6_code 11 = .ok (.getfield 9, 3) := by decide +kernel
theorem d_AL_grow1_14 : decode prog_27_method_6_code 14 = .ok (.getstatic 39, 3) := by decide +kernel
theorem d_AL_grow1_17 : decode prog_27_method_6_code 17 = .ok (.if_acmp .eq 28, 3) := by decide +kernel
theorem d_AL_grow1_20 : decode prog_27_method_6_code 20 = .ok (.iload_n 2, 1) := by decide +kernel
theorem d_AL_grow1_21 : decode prog_27_method_6_code 21 = .ok (.iload_n 1, 1) := by decide +kernel
theorem d_AL_grow1_22 : decode prog_27_method_6_code 22 = .ok (.iload_n 2, 1) := by decide +kernel
theorem d_AL_grow1_23 : decode prog_27_method_6_code 23 = .ok (.isub, 1) := by decide +kernel
theorem d_AL_grow1_24 : decode prog_27_method_6_code 24 = .ok (.iload_n 2, 1) := by decide +kernel
theorem d_AL_grow1_25 : decode prog_27_method_6_code 25 = .ok (.iconst 1, 1) := by decide +kernel
theorem d_AL_grow1_26 : decode prog_27_method_6_code 26 = .ok (.ishr, 1) := by decide +kernel
theorem d_AL_grow1_27 : decode prog_27_method_6_code 27 = .ok (.invokestatic 73, 3) := by decide +kernel
theorem d_AL_grow1_30 : decode prog_27_method_6_code 30 = .ok (.istore_n 3, 1) := by decide +kernel
theorem d_AL_grow1_31 : decode prog_27_method_6_code 31 = .ok (.aload_n 0, 1) := by decide +kernel
theorem d_AL_grow1_32 : decode prog_27_method_6_code 32 = .ok (.aload_n 0, 1) := by decide +kernel
theorem d_AL_grow1_33 : decode prog_27_method_6_code 33 = .ok (.getfield 9, 3) := by decide +kernel
theorem d_AL_grow1_36 : decode prog_27_method_6_code 36 = .ok (.iload_n 3, 1) := by decide +kernel
theorem d_AL_grow1_37 : decode prog_27_method_6_code 37 = .ok (.invokestatic 66, 3) := by decide +kernel
theorem d_AL_grow1_40 : decode prog_27_method_6_code 40 = .ok (.dup_x1, 1) := by decide +kernel
theorem d_AL_grow1_41 : decode prog_27_method_6_code 41 = .ok (.putfield 9, 3) := by decide +kernel
theorem d_AL_grow1_44 : decode prog_27_method_6_code 44 = .ok (.areturn, 1) := by decide +kernel
theorem d_AL_grow1_45 : decode prog_27_method_6_code 45 = .ok (.aload_n 0, 1) := by decide +kernel
theorem d_AL_grow1_46 : decode prog_27_method_6_code 46 = .ok (.bipush 10, 2) := by decide +kernel
theorem d_AL_grow1_48 : decode prog_27_method_6_code 48 = .ok (.iload_n 1, 1) := by decide +kernel
theorem d_AL_grow1_49 : decode prog_27_method_6_code 49 = .ok (.invokestatic 79, 3) := by decide +kernel
theorem d_AL_grow1_52 : decode prog_27_method_6_code 52 = .ok (.anewarray 7, 3) := by decide +kernel
theorem d_AL_grow1_55 : decode prog_27_method_6_code 55 = .ok (.dup_x1, 1) := by decide +kernel
theorem d_AL_grow1_56 : decode prog_27_method_6_code 56 = .ok (.putfield 9, 3) := by decide +kernel
theorem d_AL_grow1_59 : decode prog_27_method_6_code 59 = .ok (.areturn, 1) := by decide +kernel
def y_AL_size : MethodName := ⟨"java/util/ArrayList", "size", "()I"⟩
def w_AL_size : List Cond := .code y_AL_size prog_27_method_8_code 1 (some .int) :: TB
theorem d_AL_size_0 : decode prog_27_method_8_code 0 = .ok (.aload_n 0, 1) := by decide +kernel
theorem d_AL_size_1 : decode prog_27_method_8_code 1 = .ok (.getfield 48, 3) := by decide +kernel
theorem d_AL_size_4 : decode prog_27_method_8_code 4 = .ok (.ireturn, 1) := by decide +kernel
def y_AB_init : MethodName := ⟨"java/util/AbstractList", "<init>", "()V"⟩
def w_AB_init : List Cond := .code y_AB_init prog_26_method_1_code 1 none :: TB
theorem d_AB_init_0 : decode prog_26_method_1_code 0 = .ok (.aload_n 0, 1) := by decide +kernel
theorem d_AB_init_1 : decode prog_26_method_1_code 1 = .ok (.invokespecial 1, 3) := by decide +kernel
theorem d_AB_init_4 : decode prog_26_method_1_code 4 = .ok (.aload_n 0, 1) := by decide +kernel
theorem d_AB_init_5 : decode prog_26_method_1_code 5 = .ok (.iconst 0, 1) := by decide +kernel
theorem d_AB_init_6 : decode prog_26_method_1_code 6 = .ok (.putfield 7, 3) := by decide +kernel
theorem d_AB_init_9 : decode prog_26_method_1_code 9 = .ok (.return_, 1) := by decide +kernel
def y_AC_init : MethodName := ⟨"java/util/AbstractCollection", "<init>", "()V"⟩
def w_AC_init : List Cond := .code y_AC_init prog_25_method_1_code 1 none :: TB
theorem d_AC_init_0 : decode prog_25_method_1_code 0 = .ok (.aload_n 0, 1) := by decide +kernel
theorem d_AC_init_1 : decode prog_25_method_1_code 1 = .ok (.invokespecial 1, 3) := by decide +kernel
theorem d_AC_init_4 : decode prog_25_method_1_code 4 = .ok (.return_, 1) := by decide +kernel
def y_AR_copyOf0 : MethodName := ⟨"java/util/Arrays", "copyOf", "([Ljava/lang/Object;I)[Ljava/lang/Object;"⟩
def w_AR_copyOf0 : List Cond := .code y_AR_copyOf0 prog_28_method_119_code 2 (some (.array (.object "java/lang/Object"))) :: TB
theorem d_AR_copyOf0_0 : decode prog_28_method_119_code 0 = .ok (.aload_n 0, 1) := by decide +kernel
theorem d_AR_copyOf0_1 : decode prog_28_method_119_code 1 = .ok (.iload_n 1, 1) := by decide +kernel
theorem d_AR_copyOf0_2 : decode prog_28_method_119_code 2 = .ok (.aload_n 0, 1) := by decide +kernel
theorem d_AR_copyOf0_3 : decode prog_28_method_119_code 3 = .ok (.invokevirtual 86, 3) := by decide +kernel
theorem d_AR_copyOf0_6 : decode prog_28_method_119_code 6 = .ok (.invokestatic 300, 3) := by decide +kernel
theorem d_AR_copyOf0_9 : decode prog_28_method_119_code 9 = .ok (.areturn, 1) := by decide +kernel
def y_AR_copyOf1 : MethodName := ⟨"java/util/Arrays", "copyOf", "([Ljava/lang/Object;ILjava/lang/Class;)[Ljava/lang/Object;"⟩
def w_AR_copyOf1 : List Cond := .code y_AR_copyOf1 prog_28_method_120_code 4 (some (.array (.object "java/lang/Object"))) :: TB
theorem d_AR_copyOf1_0 : decode prog_28_method_120_code 0 = .ok (.aload_n 2, 1) := by decide +kernel
theorem d_AR_copyOf1_1 : decode prog_28_method_120_code 1 = .ok (.ldc 110, 2) := by decide +kernel
theorem d_AR_copyOf1_3 : decode prog_28_method_120_code 3 = .ok (.if_acmp .ne 10, 3) := by decide +kernel
theorem d_AR_copyOf1_6 : decode prog_28_method_120_code 6 = .ok (.iload_n 1, 1) := by decide +kernel
theorem d_AR_copyOf1_7 : decode prog_28_method_120_code 7 = .ok (.anewarray 2, 3) := by decide +kernel
theorem d_AR_copyOf1_10 : decode prog_28_method_120_code 10 = .ok (.goto 14, 3) := by decide +kernel
theorem d_AR_copyOf1_13 : decode prog_28_method_120_code 13 = .ok (.aload_n 2, 1) := by decide +kernel
theorem d_AR_copyOf1_14 : decode prog_28_method_120_code 14 = .ok (.invokevirtual 90, 3) := by decide +kernel
theorem d_AR_copyOf1_17 : decode prog_28_method_120_code 17 = .ok (.iload_n 1, 1) := by decide +kernel
theorem d_AR_copyOf1_18 : decode prog_28_method_120_code 18 = .ok (.invokestatic 95, 3) := by decide +kernel
theorem d_AR_copyOf1_21 : decode prog_28_method_120_code 21 = .ok (.checkcast 110, 3) := by decide +kernel
theorem d_AR_copyOf1_24 : decode prog_28_method_120_code 24 = .ok (.astore_n 3, 1) := by decide +kernel
theorem d_AR_copyOf1_25 : decode prog_28_method_120_code 25 = .ok (.aload_n 0, 1) := by decide +kernel
theorem d_AR_copyOf1_26 : decode prog_28_method_120_code 26 = .ok (.iconst 0, 1) := by decide +kernel
theorem d_AR_copyOf1_27 : decode prog_28_method_120_code 27 = .ok (.aload_n 3, 1) := by decide +kernel
theorem d_AR_copyOf1_28 : decode prog_28_method_120_code 28 = .ok (.iconst 0, 1) := by decide +kernel
theorem d_AR_copyOf1_29 : decode prog_28_method_120_code 29 = .ok (.aload_n 0, 1) := by decide +kernel
theorem d_AR_copyOf1_30 : decode prog_28_method_120_code 30 = .ok (.arraylength, 1) := by decide +kernel
theorem d_AR_copyOf1_31 : decode prog_28_method_120_code 31 = .ok (.iload_n 1, 1) := by decide +kernel
theorem d_AR_copyOf1_32 : decode prog_28_method_120_code 32 = .ok (.invokestatic 304, 3) := by decide +kernel
theorem d_AR_copyOf1_35 : decode prog_28_method_120_code 35 = .ok (.invokestatic 150, 3) := by decide +kernel
theorem d_AR_copyOf1_38 : decode prog_28_method_120_code 38 = .ok (.aload_n 3, 1) := by decide +kernel
theorem d_AR_copyOf1_39 : decode prog_28_method_120_code 39 = .ok (.areturn, 1) := by decide +kernel
def y_OB_checkIndex : MethodName := ⟨"java/util/Objects", "checkIndex", "(II)I"⟩
def w_OB_checkIndex : List Cond := .code y_OB_checkIndex prog_31_method_17_code 2 (some .int) :: TB
theorem d_OB_checkIndex_0 : decode prog_31_method_17_code 0 = .ok (.iload_n 0, 1) := by decide +kernel
theorem d_OB_checkIndex_1 : decode prog_31_method_17_code 1 = .ok (.iload_n 1, 1) := by decide +kernel
theorem d_OB_checkIndex_2 : decode prog_31_method_17_code 2 = .ok (.aconst_null, 1) := by decide +kernel
theorem d_OB_checkIndex_3 : decode prog_31_method_17_code 3 = .ok (.invokestatic 105, 3) := by decide +kernel
theorem d_OB_checkIndex_6 : decode prog_31_method_17_code 6 = .ok (.ireturn, 1) := by decide +kernel
def y_PR_checkIndex : MethodName := ⟨"jdk/internal/util/Preconditions", "checkIndex", "(IILjava/util/function/BiFunction;)I"⟩
def w_PR_checkIndex : List Cond := .code y_PR_checkIndex prog_35_method_11_code 3 (some .int) :: TB
theorem d_PR_checkIndex_0 : decode prog_35_method_11_code 0 = .ok (.iload_n 0, 1) := by decide +kernel
theorem d_PR_checkIndex_1 : decode prog_35_method_11_code 1 = .ok (.ifCond .lt 8, 3) := by decide +kernel
theorem d_PR_checkIndex_4 : decode prog_35_method_11_code 4 = .ok (.iload_n 0, 1) := by decide +kernel
theorem d_PR_checkIndex_5 : decode prog_35_method_11_code 5 = .ok (.iload_n 1, 1) := by decide +kernel
theorem d_PR_checkIndex_6 : decode prog_35_method_11_code 6 = .ok (.if_icmp .lt 10, 3) := by decide +kernel
theorem d_PR_checkIndex_9 : decode prog_35_method_11_code 9 = .ok (.aload_n 2, 1) := by decide +kernel
theorem d_PR_checkIndex_10 : decode prog_35_method_11_code 10 = .ok (.iload_n 0, 1) := by decide +kernel
theorem d_PR_checkIndex_11 : decode prog_35_method_11_code 11 = .ok (.iload_n 1, 1) := by decide +kernel
theorem d_PR_checkIndex_12 : decode prog_35_method_11_code 12 = .ok (.invokestatic 95, 3) := by decide +kernel
theorem d_PR_checkIndex_15 : decode prog_35_method_11_code 15 = .ok (.athrow, 1) := by decide +kernel
theorem d_PR_checkIndex_16 : decode prog_35_method_11_code 16 = .ok (.iload_n 0, 1) := by decide +kernel
theorem d_PR_checkIndex_17 : decode prog_35_method_11_code 17 = .ok (.ireturn, 1) := by decide +kernel
def y_AS_hugeLength : MethodName := ⟨"jdk/internal/util/ArraysSupport", "hugeLength", "(II)I"⟩
def w_AS_hugeLength : List Cond := .code y_AS_hugeLength prog_34_method_28_code 3 (some .int) :: TB
theorem d_AS_hugeLength_0 : decode prog_34_method_28_code 0 = .ok (.iload_n 0, 1) := by decide +kernel
theorem d_AS_hugeLength_1 : decode prog_34_method_28_code 1 = .ok (.iload_n 1, 1) := by decide +kernel
theorem d_AS_hugeLength_2 : decode prog_34_method_28_code 2 = .ok (.iadd, 1) := by decide +kernel
theorem d_AS_hugeLength_3 : decode prog_34_method_28_code 3 = .ok (.istore_n 2, 1) := by decide +kernel
theorem d_AS_hugeLength_4 : decode prog_34_method_28_code 4 = .ok (.iload_n 2, 1) := by decide +kernel
theorem d_AS_hugeLength_5 : decode prog_34_method_28_code 5 = .ok (.ifCond .ge 44, 3) := by decide +kernel
theorem d_AS_hugeLength_8 : decode prog_34_method_28_code 8 = .ok (.new 204, 3) := by decide +kernel
theorem d_AS_hugeLength_11 : decode prog_34_method_28_code 11 = .ok (.dup, 1) := by decide +kernel
theorem d_AS_hugeLength_12 : decode prog_34_method_28_code 12 = .ok (.new 89, 3) := by decide +kernel
theorem d_AS_hugeLength_15 : decode prog_34_method_28_code 15 = .ok (.dup, 1) := by decide +kernel
theorem d_AS_hugeLength_16 : decode prog_34_method_28_code 16 = .ok (.invokespecial 91, 3) := by decide +kernel
theorem d_AS_hugeLength_19 : decode prog_34_method_28_code 19 = .ok (.ldc 206, 2) := by decide +kernel
theorem d_AS_hugeLength_21 : decode prog_34_method_28_code 21 = .ok (.invokevirtual 94, 3) := by decide +kernel
theorem d_AS_hugeLength_24 : decode prog_34_method_28_code 24 = .ok (.iload_n 0, 1) := by decide +kernel
theorem d_AS_hugeLength_25 : decode prog_34_method_28_code 25 = .ok (.invokevirtual 98, 3) := by decide +kernel
theorem d_AS_hugeLength_28 : decode prog_34_method_28_code 28 = .ok (.ldc 208, 2) := by decide +kernel
theorem d_AS_hugeLength_30 : decode prog_34_method_28_code 30 = .ok (.invokevirtual 94, 3) := by decide +kernel
theorem d_AS_hugeLength_33 : decode prog_34_method_28_code 33 = .ok (.iload_n 1, 1) := by decide +kernel
theorem d_AS_hugeLength_34 : decode prog_34_method_28_code 34 = .ok (.invokevirtual 98, 3) := by decide +kernel
theorem d_AS_hugeLength_37 : decode prog_34_method_28_code 37 = .ok (.ldc 210, 2) := by decide +kernel
theorem d_AS_hugeLength_39 : decode prog_34_method_28_code 39 = .ok (.invokevirtual 94, 3) := by decide +kernel
theorem d_AS_hugeLength_42 : decode prog_34_method_28_code 42 = .ok (.invokevirtual 101, 3) := by decide +kernel
theorem d_AS_hugeLength_45 : decode prog_34_method_28_code 45 = .ok (.invokespecial 212, 3) := by decide +kernel
theorem d_AS_hugeLength_48 : decode prog_34_method_28_code 48 = .ok (.athrow, 1) := by decide +kernel
theorem d_AS_hugeLength_49 : decode prog_34_method_28_code 49 = .ok (.iload_n 2, 1) := by decide +kernel
theorem d_AS_hugeLength_50 : decode prog_34_method_28_code 50 = .ok (.ldc 200, 2) := by decide +kernel
theorem d_AS_hugeLength_52 : decode prog_34_method_28_code 52 = .ok (.if_icmp .gt 6, 3) := by decide +kernel
theorem d_AS_hugeLength_55 : decode prog_34_method_28_code 55 = .ok (.ldc 200, 2) := by decide +kernel
theorem d_AS_hugeLength_57 : decode prog_34_method_28_code 57 = .ok (.ireturn, 1) := by decide +kernel
theorem d_AS_hugeLength_58 : decode prog_34_method_28_code 58 = .ok (.iload_n 2, 1) := by decide +kernel
theorem d_AS_hugeLength_59 : decode prog_34_method_28_code 59 = .ok (.ireturn, 1) := by decide +kernel
def y_AS_newLength : MethodName := ⟨"jdk/internal/util/ArraysSupport", "newLength", "(III)I"⟩
def w_AS_newLength : List Cond := .code y_AS_newLength prog_34_method_27_code 4 (some .int) :: TB
theorem d_AS_newLength_0 : decode prog_34_method_27_code 0 = .ok (.iload_n 0, 1) := by decide +kernel
theorem d_AS_newLength_1 : decode prog_34_method_27_code 1 = .ok (.iload_n 1, 1) := by decide +kernel
theorem d_AS_newLength_2 : decode prog_34_method_27_code 2 = .ok (.iload_n 2, 1) := by decide +kernel
theorem d_AS_newLength_3 : decode prog_34_method_27_code 3 = .ok (.invokestatic 194, 3) := by decide +kernel
theorem d_AS_newLength_6 : decode prog_34_method_27_code 6 = .ok (.iadd, 1) := by decide +kernel
theorem d_AS_newLength_7 : decode prog_34_method_27_code 7 = .ok (.istore_n 3, 1) := by decide +kernel
theorem d_AS_newLength_8 : decode prog_34_method_27_code 8 = .ok (.iconst 0, 1) := by decide +kernel
theorem d_AS_newLength_9 : decode prog_34_method_27_code 9 = .ok (.iload_n 3, 1) := by decide +kernel
theorem d_AS_newLength_10 : decode prog_34_method_27_code 10 = .ok (.if_icmp .ge 11, 3) := by decide +kernel
theorem d_AS_newLength_13 : decode prog_34_method_27_code 13 = .ok (.iload_n 3, 1) := by decide +kernel
theorem d_AS_newLength_14 : decode prog_34_method_27_code 14 = .ok (.ldc 200, 2) := by decide +kernel
theorem d_AS_newLength_16 : decode prog_34_method_27_code 16 = .ok (.if_icmp .gt 5, 3) := by decide +kernel
theorem d_AS_newLength_19 : decode prog_34_method_27_code 19 = .ok (.iload_n 3, 1) := by decide +kernel
theorem d_AS_newLength_20 : decode prog_34_method_27_code 20 = .ok (.ireturn, 1) := by decide +kernel
theorem d_AS_newLength_21 : decode prog_34_method_27_code 21 = .ok (.iload_n 0, 1) := by decide +kernel
theorem d_AS_newLength_22 : decode prog_34_method_27_code 22 = .ok (.iload_n 1, 1) := by decide +kernel
theorem d_AS_newLength_23 : decode prog_34_method_27_code 23 = .ok (.invokestatic 201, 3) := by decide +kernel
theorem d_AS_newLength_26 : decode prog_34_method_27_code 26 = .ok (.ireturn, 1) := by decide +kernel
end
section
/-! lists: reading, making -/
set_option maxHeartbeats 4000000 in
set_option maxRecDepth 100000 in
/-- ArrayList.size() -/
theorem c_AL_size (l : Launch) (G : gG) (L : List Nat) (f : Nat → va_E) (sz : Nat) (q d : Nat) (mo n : Int32) (hq : q ∈ L) (hf : f q = .inr (0, [.int mo, .ref d, .int n])) : sI l y_AL_size w_AL_size ({ frames := 0, cells := 0, slots := 0, locals := 0 }) G L f sz [.ref q] (fun r => r = n) := by
  refine pz_met (cc := prog_27_method_8_code) (maxL := 1) (ret := (some .int)) (by decide) rfl (Nat.le_of_ble_eq_true rfl) ?_
  intro p e s m below meth c ls hx hb hr hml hts hown hlocks hin hsz hK hP hD hS hA hz hl
  have htb : ∀ w ∈ TB, w.before _ s = true := fun w h => hts w (List.mem_cons_of_mem _ h)
  have hl : lv_has ls 1 [(0, .ref q)] := hl
  refine lv_aload_n hx hb d_AL_size_0 rfl (lv_at hl 0 rfl) ?_
  refine pz_get (ci := 0) (C := "java/util/ArrayList") (T := T_AL) (N := 3) hx hb htb in_AL hown hK hP hq hf rfl 2 (by decide) (htb _ tw_50) (fun _ h9 => h9) rfl d_AL_size_1 ?_
  exact pz_iretS hx hb hr rfl hlocks rfl d_AL_size_4
set_option maxHeartbeats 4000000 in
set_option maxRecDepth 100000 in
/-- Preconditions.checkIndex(i, n, null) -/
theorem c_PR_checkIndex (l : Launch) (i n : Int32) (h1 : ¬ i < 0) (h2 : i < n) : pI l y_PR_checkIndex w_PR_checkIndex ({ frames := 0, cells := 0, slots := 0, locals := 0 }) [.int i, .int n, .null] (fun r => r = i) := by
  refine pz_metP (cc := prog_35_method_11_code) (maxL := 3) (ret := (some .int)) (by decide) rfl (Nat.le_of_ble_eq_true rfl) ?_
  intro p e s m below meth c ls hx hb hr hml hts hown hlocks hl
  have htb : ∀ w ∈ TB, w.before _ s = true := fun w h => hts w (List.mem_cons_of_mem _ h)
  have hl : lv_has ls 3 [(0, .int i), (1, .int n), (2, .null)] := hl
  refine lv_iload_n hx hb d_PR_checkIndex_0 rfl (lv_at hl 0 rfl) ?_
  refine lv_if_lt (tgt := 9) hx hb d_PR_checkIndex_1 (by decide) (fun c_1 => ?_) (fun c_1 => ?_)
  · exact absurd c_1 h1
  · refine lv_iload_n hx hb d_PR_checkIndex_4 rfl (lv_at hl 0 rfl) ?_
    refine lv_iload_n hx hb d_PR_checkIndex_5 rfl (lv_at hl 1 rfl) ?_
    refine lv_icmp_lt (tgt := 16) hx hb d_PR_checkIndex_6 (by decide) (fun c_2 => ?_) (fun c_2 => ?_)
    · refine lv_iload_n hx hb d_PR_checkIndex_16 rfl (lv_at hl 0 rfl) ?_
      exact pz_iretS hx hb hr rfl hlocks rfl d_PR_checkIndex_17
    · exact absurd h2 c_2
set_option maxHeartbeats 4000000 in
set_option maxRecDepth 100000 in
/-- Objects.checkIndex(i, n) -/
theorem c_OB_checkIndex (l : Launch) (i n : Int32) (h1 : ¬ i < 0) (h2 : i < n) : pI l y_OB_checkIndex w_OB_checkIndex ({ frames := 1, cells := 0, slots := 0, locals := 22 }) [.int i, .int n] (fun r => r = i) := by
  refine pz_metP (cc := prog_31_method_17_code) (maxL := 2) (ret := (some .int)) (by decide) rfl (Nat.le_of_ble_eq_true rfl) ?_
  intro p e s m below meth c ls hx hb hr hml hts hown hlocks hl
  have htb : ∀ w ∈ TB, w.before _ s = true := fun w h => hts w (List.mem_cons_of_mem _ h)
  have hl : lv_has ls 2 [(0, .int i), (1, .int n)] := hl
  refine lv_iload_n hx hb d_OB_checkIndex_0 rfl (lv_at hl 0 rfl) ?_
  refine lv_iload_n hx hb d_OB_checkIndex_1 rfl (lv_at hl 1 rfl) ?_
  refine lv_null hx hb d_OB_checkIndex_2 ?_
  refine vp_callSi (va_Run.run (va_runS (As := [.int i, .int n, .null]) (rest := []) ⟨hx, hb, hml, hown, hts⟩ (c_PR_checkIndex l i n h1 h2) (va_cwS 3 hts (tb_SS tw_397 tw_398 tw_21 tw_399) rfl rfl rfl (by decide +kernel) ⟨(Nat.le_of_ble_eq_true rfl), (Nat.le_of_ble_eq_true rfl)⟩) pz_preP rfl rfl hl.1 rfl (lv_room (Nat.le_of_ble_eq_true rfl)) d_OB_checkIndex_3 ⟨(Nat.le_of_ble_eq_true rfl), (Nat.le_of_ble_eq_true rfl)⟩)) (fun r1 hw => ?_)
  have hw : r1 = i := hw
  subst r1
  exact pz_iretS hx hb hr rfl hlocks rfl d_OB_checkIndex_6
set_option maxHeartbeats 4000000 in
set_option maxRecDepth 100000 in
/-- ArrayList.elementData(i) -/
theorem c_AL_elementData (l : Launch) (G : gG) (L : List Nat) (f : Nat → va_E) (sz : Nat) (q d cap : Nat) (mo n i : Int32) (a : Nat → Option Nat) (hq : q ∈ L) (hf : f q = .inr (0, [.int mo, .ref d, .int n])) (hd : d ∈ L) (hfd : f d = .inl (cO G, cap, .inr (.inr (.inr (.inr a))))) (hi : vp_in i cap) : sQ l y_AL_elementData w_AL_elementData ({ frames := 0, cells := 0, slots := 0, locals := 0 }) G L f sz [.ref q, .int i] (fun r => r = a i.toNatClampNeg) := by
  refine pz_met (cc := prog_27_method_18_code) (maxL := 2) (ret := (some (.object "java/lang/Object"))) (by decide) rfl (Nat.le_of_ble_eq_true rfl) ?_
  intro p e s m below meth c ls hx hb hr hml hts hown hlocks hin hsz hK hP hD hS hA hz hl
  have htb : ∀ w ∈ TB, w.before _ s = true := fun w h => hts w (List.mem_cons_of_mem _ h)
  have hl : lv_has ls 2 [(0, .ref q), (1, .int i)] := hl
  refine lv_aload_n hx hb d_AL_elementData_0 rfl (lv_at hl 0 rfl) ?_
  refine pz_get (ci := 0) (C := "java/util/ArrayList") (T := T_AL) (N := 3) hx hb htb in_AL hown hK hP hq hf rfl 1 (by decide) (htb _ tw_49) (fun _ h9 => h9) rfl d_AL_elementData_1 ?_
  refine lv_iload_n hx hb d_AL_elementData_4 rfl (lv_at hl 1 rfl) ?_
  have hin1 : vp_in i cap := hi
  refine pz_aldq hx hb hK hP 2 hd hfd rfl hin1 d_AL_elementData_5 ?_
  exact pz_aretS hx hb hr (Or.inl ⟨_, rfl⟩) hlocks rfl d_AL_elementData_6
set_option maxHeartbeats 4000000 in
set_option maxRecDepth 100000 in
/-- ArrayList.get(i) -/
theorem c_AL_get (l : Launch) (G : gG) (L : List Nat) (f : Nat → va_E) (sz : Nat) (q d cap : Nat) (mo n i : Int32) (a : Nat → Option Nat) (hq : q ∈ L) (hf : f q = .inr (0, [.int mo, .ref d, .int n])) (hd : d ∈ L) (hfd : f d = .inl (cO G, cap, .inr (.inr (.inr (.inr a))))) (hi : vp_in i cap) (h1 : ¬ i < 0) (h2 : i < n) : sQ l y_AL_get w_AL_get ({ frames := 2, cells := 0, slots := 0, locals := 43 }) G L f sz [.ref q, .int i] (fun r => r = a i.toNatClampNeg) := by
  refine pz_met (cc := prog_27_method_20_code) (maxL := 2) (ret := (some (.object "java/lang/Object"))) (by decide) rfl (Nat.le_of_ble_eq_true rfl) ?_
  intro p e s m below meth c ls hx hb hr hml hts hown hlocks hin hsz hK hP hD hS hA hz hl
  have htb : ∀ w ∈ TB, w.before _ s = true := fun w h => hts w (List.mem_cons_of_mem _ h)
  have hl : lv_has ls 2 [(0, .ref q), (1, .int i)] := hl
  refine lv_iload_n hx hb d_AL_get_0 rfl (lv_at hl 1 rfl) ?_
  refine lv_aload_n hx hb d_AL_get_1 rfl (lv_at hl 0 rfl) ?_
  refine pz_get (ci := 0) (C := "java/util/ArrayList") (T := T_AL) (N := 3) hx hb htb in_AL hown hK hP hq hf rfl 2 (by decide) (htb _ tw_50) (fun _ h9 => h9) rfl d_AL_get_2 ?_
  refine vp_callSi (va_Run.run (va_runS (As := [.int i, .int n]) (rest := []) ⟨hx, hb, hml, hown, hts⟩ (c_OB_checkIndex l i n h1 h2) (va_cwS 2 hts (tb_SS tw_394 tw_395 tw_20 tw_396) rfl rfl rfl (by decide +kernel) ⟨(Nat.le_of_ble_eq_true rfl), (Nat.le_of_ble_eq_true rfl)⟩) pz_preP rfl rfl hl.1 rfl (lv_room (Nat.le_of_ble_eq_true rfl)) d_AL_get_5 ⟨(Nat.le_of_ble_eq_true rfl), (Nat.le_of_ble_eq_true rfl)⟩)) (fun r1 hw => ?_)
  have hw : r1 = i := hw
  subst r1
  refine lv_pop hx hb d_AL_get_8 rfl ?_
  refine lv_aload_n hx hb d_AL_get_9 rfl (lv_at hl 0 rfl) ?_
  refine lv_iload_n hx hb d_AL_get_10 rfl (lv_at hl 1 rfl) ?_
  refine va_csq (va_Run.run (va_runV (As := [.int i]) (rest := []) ⟨hx, hb, hml, hown, hts⟩ (c_AL_elementData l G L f _ q d cap mo n i a hq hf hd hfd hi) (cwV 1 hts (tb_V tw_400 tw_401 tw_402 tw_4 tw_403) rfl rfl rfl (by decide +kernel) ⟨(Nat.le_of_ble_eq_true rfl), (Nat.le_of_ble_eq_true rfl)⟩) (pz_preV (zz_ok _ _ _) hK hP hD hS hA hz (ci := 0) rfl rfl hq hf) rfl rfl hl.1 rfl (lv_room (Nat.le_of_ble_eq_true rfl)) d_AL_get_11 ⟨(Nat.le_of_ble_eq_true rfl), (Nat.le_of_ble_eq_true rfl)⟩)) (fun r2 hw => ?_)
  have hw : r2 = (a i.toNatClampNeg) := hw
  subst r2
  exact pz_aretS hx hb hr (Or.inl ⟨_, rfl⟩) hlocks rfl d_AL_get_14
set_option maxHeartbeats 4000000 in
set_option maxRecDepth 100000 in
/-- AbstractCollection() -/
theorem c_AC_init (l : Launch) (G : gG) (L : List Nat) (f : Nat → va_E) (sz : Nat) (q : Nat) : mV l y_AC_init w_AC_init ({ frames := 1, cells := 0, slots := 0, locals := 20 }) G L f sz [.ref q] 0 0 (fun u => u = (L, f)) := by
  refine pz_met (cc := prog_25_method_1_code) (maxL := 1) (ret := none) (by decide) rfl (Nat.le_of_ble_eq_true rfl) ?_
  intro p e s m below meth c ls hx hb hr hml hts hown hlocks hin hsz hK hP hD hS hA hz hl
  have htb : ∀ w ∈ TB, w.before _ s = true := fun w h => hts w (List.mem_cons_of_mem _ h)
  have hl : lv_has ls 1 [(0, .ref q)] := hl
  refine lv_aload_n hx hb d_AC_init_0 rfl (lv_at hl 0 rfl) ?_
  refine W.objInit hx hb hown (htb _ tw_46) (htb _ tw_33) (htb _ tw_34) rfl (by rw [hml]; exact hl.1) rfl d_AC_init_1 (Nat.le_of_ble_eq_true rfl) (Nat.le_of_ble_eq_true rfl) ?_
  refine W.eq (g2 := F0 m 4 ls []) rfl ?_
  exact pz_vret hx hb hr hlocks hK hP hD hS (Nat.le_of_ble_eq_true rfl) (Nat.le_of_ble_eq_true rfl) rfl d_AC_init_4
set_option maxHeartbeats 4000000 in
set_option maxRecDepth 100000 in
/-- AbstractList() -/
theorem c_AB_init (l : Launch) (G : gG) (L : List Nat) (f : Nat → va_E) (sz : Nat) (q : Nat) (mo n : Int32) (hq : q ∈ L) (hf : f q = .inr (0, [.int mo, .null, .int n])) : mV l y_AB_init w_AB_init ({ frames := 2, cells := 0, slots := 0, locals := 40 }) G L f sz [.ref q] 0 0 (fun u => u = (L, va_up f q (.inr (0, [.int 0, .null, .int n])))) := by
  refine pz_met (cc := prog_26_method_1_code) (maxL := 1) (ret := none) (by decide) rfl (Nat.le_of_ble_eq_true rfl) ?_
  intro p e s m below meth c ls hx hb hr hml hts hown hlocks hin hsz hK hP hD hS hA hz hl
  have htb : ∀ w ∈ TB, w.before _ s = true := fun w h => hts w (List.mem_cons_of_mem _ h)
  have hl : lv_has ls 1 [(0, .ref q)] := hl
  refine lv_aload_n hx hb d_AB_init_0 rfl (lv_at hl 0 rfl) ?_
  refine pz_cv (va_runI (As := []) (rest := []) ⟨hx, hb, hml, hown, hts⟩ (c_AC_init l G L f _ q) (cwI 0 hts (tb_good tw_45) rfl rfl rfl (htb _ tw_2) (htb _ tw_43) (htb _ tw_44) rfl (by decide +kernel) ⟨(Nat.le_of_ble_eq_true rfl), (Nat.le_of_ble_eq_true rfl)⟩) (pz_pre (zz_ok _ _ _) hK hP hD hS hA hz) rfl rfl hl.1 rfl (lv_room (Nat.le_of_ble_eq_true rfl)) d_AB_init_1 ⟨(Nat.le_of_ble_eq_true rfl), (Nat.le_of_ble_eq_true rfl)⟩) hP hD hS hA (fun L2 f1 H locs hw hP hD hS => ?_)
  have ef1 : f1 = f := (Prod.mk.inj hw).2
  have eL2 : L2 = L := (Prod.mk.inj hw).1
  subst L2
  subst f1
  refine lv_aload_n hx hb d_AB_init_4 rfl (lv_at hl 0 rfl) ?_
  refine lv_iconst (v := 0) hx hb d_AB_init_5 (by decide) ?_
  refine pz_put (ci := 0) (v := .int 0) (ty := .int) (C := "java/util/ArrayList") (T := T_AL) (N := 3) hx hb htb in_AL ty_AL to_AL nm_AL hown hK hP hD hS hq hf rfl 0 (by decide) (htb _ tw_51) (fun _ h9 => h9) rfl rfl rfl rfl (Nat.le_of_ble_eq_true rfl) d_AB_init_6 (fun f3 H locs ef3 hP hD hS => ?_)
  have ef3 : f3 = va_up f q (.inr (0, [.int 0, .null, .int n])) := ef3
  exact pz_vret hx hb hr hlocks hK hP hD hS (Nat.le_of_ble_eq_true rfl) (Nat.le_of_ble_eq_true rfl) (by rw [ef3]) d_AB_init_9
set_option maxHeartbeats 4000000 in
set_option maxRecDepth 100000 in
/-- ArrayList() -/
theorem c_AL_init (l : Launch) (G : gG) (L : List Nat) (f : Nat → va_E) (sz : Nat) (q : Nat) (mo n : Int32) (hq : q ∈ L) (hf : f q = .inr (0, [.int mo, .null, .int n])) : mV l y_AL_init w_AL_init ({ frames := 3, cells := 0, slots := 0, locals := 60 }) G L f sz [.ref q] 0 0 (fun u => u = (L, va_up f q (.inr (0, [.int 0, .ref G.2.2.1, .int n])))) := by
  refine pz_met (cc := prog_27_method_2_code) (maxL := 1) (ret := none) (by decide) rfl (Nat.le_of_ble_eq_true rfl) ?_
  intro p e s m below meth c ls hx hb hr hml hts hown hlocks hin hsz hK hP hD hS hA hz hl
  have htb : ∀ w ∈ TB, w.before _ s = true := fun w h => hts w (List.mem_cons_of_mem _ h)
  have hl : lv_has ls 1 [(0, .ref q)] := hl
  refine lv_aload_n hx hb d_AL_init_0 rfl (lv_at hl 0 rfl) ?_
  refine pz_cv (va_runI (As := []) (rest := []) ⟨hx, hb, hml, hown, hts⟩ (c_AB_init l G L f _ q mo n hq hf) (cwI 0 hts (tb_good tw_42) rfl rfl rfl (htb _ tw_3) (htb _ tw_40) (htb _ tw_41) rfl (by decide +kernel) ⟨(Nat.le_of_ble_eq_true rfl), (Nat.le_of_ble_eq_true rfl)⟩) (pz_pre (zz_ok _ _ _) hK hP hD hS hA hz) rfl rfl hl.1 rfl (lv_room (Nat.le_of_ble_eq_true rfl)) d_AL_init_1 ⟨(Nat.le_of_ble_eq_true rfl), (Nat.le_of_ble_eq_true rfl)⟩) hP hD hS hA (fun L2 f1 H locs hw hP hD hS => ?_)
  have ef1 : f1 = va_up (f) q (.inr (0, [.int 0, .null, .int n])) := (Prod.mk.inj hw).2
  have eL2 : L2 = L := (Prod.mk.inj hw).1
  subst L2
  refine lv_aload_n hx hb d_AL_init_4 rfl (lv_at hl 0 rfl) ?_
  refine va_gets (C := "java/util/ArrayList") hx hb hz.2.2.2.2.2.1 hS hown (htb _ tw_47) (fun _ h9 => h9) d_AL_init_5 ?_
  have h_3 : f1 q = .inr (0, [.int 0, .null, .int n]) := by rw [ef1]; exact va_up_self _ _ _
  refine pz_put (ci := 0) (v := .ref G.2.2.1) (ty := .array (.object "java/lang/Object")) (C := "java/util/ArrayList") (T := T_AL) (N := 3) hx hb htb in_AL ty_AL to_AL nm_AL hown hK hP hD hS hq h_3 rfl 1 (by decide) (htb _ tw_49) (fun _ h9 => h9) rfl rfl rfl rfl (Nat.le_of_ble_eq_true rfl) d_AL_init_8 (fun f4 H locs ef4 hP hD hS => ?_)
  have ef4 : f4 = va_up f1 q (.inr (0, [.int 0, .ref G.2.2.1, .int n])) := ef4
  exact pz_vret hx hb hr hlocks hK hP hD hS (Nat.le_of_ble_eq_true rfl) (Nat.le_of_ble_eq_true rfl) (by rw [ef4, ef1, bx_uu]) d_AL_init_11
set_option maxHeartbeats 4000000 in
set_option maxRecDepth 100000 in
/-- ArraysSupport.newLength(i, j, k) -/
theorem c_AS_newLength (l : Launch) (i j k : Int32) (h1 : 0 < i + (if j < k then k else j)) (h2 : i + (if j < k then k else j) ≤ 2147483639) : pI l y_AS_newLength w_AS_newLength ({ frames := 1, cells := 0, slots := 0, locals := 40 }) [.int i, .int j, .int k] (fun r => r = i + (if j < k then k else j)) := by
  refine pz_metP (cc := prog_34_method_27_code) (maxL := 4) (ret := (some .int)) (by decide) rfl (Nat.le_of_ble_eq_true rfl) ?_
  intro p e s m below meth c ls hx hb hr hml hts hown hlocks hl
  have htb : ∀ w ∈ TB, w.before _ s = true := fun w h => hts w (List.mem_cons_of_mem _ h)
  have hl : lv_has ls 4 [(0, .int i), (1, .int j), (2, .int k)] := hl
  refine lv_iload_n hx hb d_AS_newLength_0 rfl (lv_at hl 0 rfl) ?_
  refine lv_iload_n hx hb d_AS_newLength_1 rfl (lv_at hl 1 rfl) ?_
  refine lv_iload_n hx hb d_AS_newLength_2 rfl (lv_at hl 2 rfl) ?_
  refine va_mmax hx hb (hml.trans hl.1.symm) hown (htb _ tw_339) (htb _ tw_340) (htb _ tw_17) (htb _ tw_341) (Nat.le_of_ble_eq_true rfl) (Nat.le_of_ble_eq_true rfl) (Nat.le_of_ble_eq_true rfl) (Nat.le_of_ble_eq_true rfl) d_AS_newLength_3 ?_
  refine lv_iadd hx hb d_AS_newLength_6 ?_
  refine lv_istore_n (lv' := [(3, .int (i + (if j < k then k else j))), (0, .int i), (1, .int j), (2, .int k)]) hx hb d_AS_newLength_7 rfl hl (by decide) rfl (fun ls hl => ?_)
  refine lv_iconst (v := 0) hx hb d_AS_newLength_8 (by decide) ?_
  refine lv_iload_n hx hb d_AS_newLength_9 rfl (lv_at hl 0 rfl) ?_
  refine lv_icmp_ge (tgt := 21) hx hb d_AS_newLength_10 (by decide) (fun c_1 => ?_) (fun c_1 => ?_)
  · exact absurd c_1 (i32_nle h1)
  · refine lv_iload_n hx hb d_AS_newLength_13 rfl (lv_at hl 0 rfl) ?_
    refine lv_ldc (v := 2147483639) hx hb hown (htb _ tw_342) d_AS_newLength_14 ?_
    refine lv_icmp_gt (tgt := 21) hx hb d_AS_newLength_16 (by decide) (fun c_2 => ?_) (fun c_2 => ?_)
    · exact absurd c_2 (i32_nlt h2)
    · refine lv_iload_n hx hb d_AS_newLength_19 rfl (lv_at hl 0 rfl) ?_
      exact pz_iretS hx hb hr rfl hlocks rfl d_AS_newLength_20
end
section
/-! lists: growing, adding -/
section PZG
variable {p : Program} {l : Launch} {e : Env} {R : Room} {s : State} {m : MethodId} {args : Array Value} {below : List Frame} {meth : Method} {c : Code} {H : Heap} {locs : List Loc} {cells slots : Nat} {Q : State → Prop}
variable {cc : ByteArray} {pc : Nat} {ls : Array Slot} {rest : List Value} {D : va_G} {cl : List vw_C} {A : Nat → Prop} {tys : List (ClassId × FieldType)} {X : va_W} {L : List Nat} {f : Nat → va_E} {H0 : Heap}
theorem pz_copy (hexec : p.tables.exec = Jvm.exec) (hb : c.code = cc) (hml : c.maxLocals = ls.size) {own : String} {index : Nat} (hown : s.vm.findClass own = some m.cls) (hlink : (Cond.methodLink own index arraycopyName).before args s = true) (hnat : (Cond.native arraycopyName).before args s = true) (hstat : (Cond.static arraycopyName).before args s = true) (hini : (Cond.initialized "java/lang/System").before args s = true) (hK : va_K D cl tys s) (hP : va_P D cl (X ++ va_pl L f) H) (hD : va_D A (X ++ va_pl L f)) (hS : va_S A H0 H locs) (t0 t1 : Nat) {a0 a : Nat} {c0 c1 : ClassId} {n0 n1 : Nat} {f0 g : Nat → Option Nat} {E0 E1 : String} (h0 : a0 ∈ L) (hf0 : f a0 = .inl (c0, n0, .inr (.inr (.inr (.inr f0))))) (h9 : a ∈ L) (hf1 : f a = .inl (c1, n1, .inr (.inr (.inr (.inr g))))) (ht0 : tys[t0]? = some (c0, .object E0)) (ht1 : tys[t1]? = some (c1, .object E1)) {sp dp n : Int32} (h1 : ¬ sp < 0) (h2 : ¬ dp < 0) (h3 : ¬ n < 0) (h4 : sp.toNatClampNeg + n.toNatClampNeg ≤ n0) (h5 : dp.toNatClampNeg + n.toNatClampNeg ≤ n1) (hel : ∀ i : Nat, i < n.toNatClampNeg → ∀ y : Nat, f0 (sp.toNatClampNeg + i) = some y → va_Any E1 s H y) (hframes : 1 ≤ R.frames) (hlocals : (rest.map fun v => v.category).sum + (nativeFrameWords "java/lang/System" "arraycopy" 5 + 11) ≤ R.locals) (hdg : decode cc pc = .ok (.invokestatic index, 3))
    (kk : ∀ (f1 : Nat → va_E) (H1 : Heap) (locs1 : List Loc), f1 = va_up f a (.inl (c1, n1, .inr (.inr (.inr (.inr (va_cpy f0 g sp.toNatClampNeg dp.toNatClampNeg n.toNatClampNeg)))))) → va_P D cl (X ++ va_pl L f1) H1 → va_D A (X ++ va_pl L f1) → va_S A H0 H1 locs1 → W p l e R s m args below meth c H1 locs1 cells slots Q (F0 m (pc + 3) ls rest)) : W p l e R s m args below meth c H locs cells slots Q (F0 m pc ls (.int n :: .int dp :: .ref a :: .int sp :: .ref a0 :: rest)) := by
  obtain ⟨q0, he0⟩ := pz_at (X := X) h0 hf0
  obtain ⟨q1, he1⟩ := pz_at (X := X) h9 hf1
  refine va_copyM hexec hb hml hown hlink hnat hstat hini hK hP hD hS q0 q1 t0 t1 he0 he1 ht0 ht1 h1 h2 h3 h4 h5 hel hframes hlocals hdg (fun H1 locs1 hP1 hD1 hS1 => ?_)
  rw [pz_set hD h9 hf1 he1] at hP1 hD1
  exact kk _ H1 locs1 rfl hP1 hD1 hS1
theorem pz_arecv {a n : Nat} {cA : ClassId} {g : Nat → Option Nat} {G : gG} (hK : va_K D cl (gT G) s) (hP : va_P D cl (X ++ va_pl L f) H) (ha : a ∈ L) (hf : f a = .inl (cA, n, .inr (.inr (.inr (.inr g))))) (hc : cA = cO G) : ∃ cell : Cell, H[a]? = some cell ∧ cell.vm.isStatics = false ∧ s.vm.findClass "[Ljava/lang/Object;" = some cell.cls := by
  subst hc
  obtain ⟨q0, he⟩ := pz_at (X := X) ha hf
  exact ⟨_, hP q0 _ he, rfl, va_nmO (hK.2 2 (cO G, .object "java/lang/Object") rfl).2 rfl⟩
end PZG
/-- what may lie in the lists: an item or an ended page of the pool -/
def elOK (L : List Nat) (f : Nat → va_E) (y : Nat) : Prop := y ∈ L ∧ ∃ (ci : Nat) (fs : List Value), f y = .inr (ci, fs) ∧ (ci = 5 ∨ ci = 6 ∨ ci = 7 ∨ ci = 8 ∨ ci = 9)
theorem el_grow {L : List Nat} {f f1 : Nat → va_E} {y q : Nat} {e : va_E} (h : elOK L f y) (hq : q ∉ L) (ef : f1 = va_up f q e) : elOK (L ++ [q]) f1 y := by
  obtain ⟨h1, ci, fs, h2, h3⟩ := h
  exact ⟨List.mem_append_left _ h1, ci, fs, by rw [ef, va_up_ne _ _ (Ne.symm (pz_nef hq h1))]; exact h2, h3⟩
theorem el_any {s : State} {G : gG} {H : Heap} {X : va_W} {L : List Nat} {f : Nat → va_E} {y : Nat} (hz : ∀ w ∈ NB, va_Nw w s) (hK : va_K (gD G) cls9 (gT G) s) (hP : va_P (gD G) cls9 (X ++ va_pl L f) H) (h : elOK L f y) : va_Any "java/lang/Object" s H y := by
  obtain ⟨h1, ci, fs, h2, h3⟩ := h
  obtain ⟨q0, he⟩ := pz_at (X := X) h1 h2
  have key : ∀ {C : String}, va_Nw (.castable C "java/lang/Object") s → ∀ comp c0 : ClassId, s.vm.findClass "java/lang/Object" = some comp → s.vm.findClass C = some c0 → s.vm.assignable c0 comp = true := by
    intro C hc comp c0 g1 g2
    obtain ⟨c3, c4, q1, q2, q3⟩ := Cond.castable_spec hc
    cases Option.some.inj (q1.symm.trans g2)
    cases Option.some.inj (q2.symm.trans g1)
    exact q3
  rcases h3 with rfl | rfl | rfl | rfl | rfl
  · exact va_rAny hK hP he rfl (key (hz _ tn_901))
  · exact va_rAny hK hP he rfl (key (hz _ tn_903))
  · exact va_rAny hK hP he rfl (key (hz _ tn_904))
  · exact va_rAny hK hP he rfl (key (hz _ tn_905))
  · exact va_rAny hK hP he rfl (key (hz _ tn_902))
set_option maxHeartbeats 4000000 in
set_option maxRecDepth 100000 in
/-- Arrays.copyOf(q, N, class) -/
theorem c_AR_copyOf1 (l : Launch) (G : gG) (L : List Nat) (f : Nat → va_E) (sz : Nat) (q cap N : Nat) (a : Nat → Option Nat) (hq : q ∈ L) (hf : f q = .inl (cO G, cap, .inr (.inr (.inr (.inr a))))) (h1 : cap ≤ N) (h2 : N ≤ 1000) (hel : ∀ i, i < cap → ∀ y, a i = some y → elOK L f y) : mR l y_AR_copyOf1 w_AR_copyOf1 ({ frames := 1, cells := 1, slots := N, locals := 40 }) G L f sz [.ref q, .int (nI N), .ref G.2.2.2.1] 1 N (fun u => u.1 ∉ L ∧ u.2.1 = L ++ [u.1] ∧ u.2.2 = va_up f u.1 (.inl (cO G, N, .inr (.inr (.inr (.inr (va_cpy a (fun _ => none) 0 0 cap))))))) := by
  refine pz_met (cc := prog_28_method_120_code) (maxL := 4) (ret := (some (.array (.object "java/lang/Object")))) (by decide) rfl (Nat.le_of_ble_eq_true rfl) ?_
  intro p e s m below meth c ls hx hb hr hml hts hown hlocks hin hsz hK hP hD hS hA hz hl
  have htb : ∀ w ∈ TB, w.before _ s = true := fun w h => hts w (List.mem_cons_of_mem _ h)
  have hl : lv_has ls 4 [(0, .ref q), (1, .int (nI N)), (2, .ref G.2.2.2.1)] := hl
  refine lv_aload_n hx hb d_AR_copyOf1_0 rfl (lv_at hl 2 rfl) ?_
  refine va_ldcM hx hb hown (htb _ tw_370) hz.2.2.2.1 d_AR_copyOf1_1 ?_
  refine lv_acmp_ne (rx := some G.2.2.2.1) (ry := some G.2.2.2.1) (tgt := 13) hx hb d_AR_copyOf1_3 (by decide) (fun h9 => absurd rfl h9) (fun _ => ?_)
  refine lv_iload_n hx hb d_AR_copyOf1_6 rfl (lv_at hl 1 rfl) ?_
  refine pz_newo hx hb hown (htb _ tw_372) hz.2.2.1 hK hP hD hS hA 2 rfl N (nI_pos (by omega)) (nI_clamp (by omega)) (by omega) (Nat.le_of_ble_eq_true rfl) (by show 0 + N ≤ N; omega) d_AR_copyOf1_7 (fun q1 L1 f1 H hnq1 eL1 ef1 hP hD hS => ?_)
  subst L1
  refine lv_goto (tgt := 24) hx hb d_AR_copyOf1_10 (by decide) ?_
  refine lv_astore_n (lv' := [(3, .ref q1), (0, .ref q), (1, .int (nI N)), (2, .ref G.2.2.2.1)]) hx hb d_AR_copyOf1_24 rfl hl (by decide) rfl (fun ls hl => ?_)
  refine lv_aload_n hx hb d_AR_copyOf1_25 rfl (lv_at hl 1 rfl) ?_
  refine lv_iconst (v := 0) hx hb d_AR_copyOf1_26 (by decide) ?_
  refine lv_aload_n hx hb d_AR_copyOf1_27 rfl (lv_at hl 0 rfl) ?_
  refine lv_iconst (v := 0) hx hb d_AR_copyOf1_28 (by decide) ?_
  refine lv_aload_n hx hb d_AR_copyOf1_29 rfl (lv_at hl 1 rfl) ?_
  have h_1 : f1 q = .inl (cO G, cap, .inr (.inr (.inr (.inr a)))) := by rw [ef1, va_up_ne _ _ (Ne.symm (pz_nef hnq1 hq))]; exact hf
  refine pz_alen hx hb hK hP 2 (List.mem_append_left _ hq) h_1 rfl d_AR_copyOf1_30 ?_
  refine lv_iload_n hx hb d_AR_copyOf1_31 rfl (lv_at hl 2 rfl) ?_
  refine va_mmin hx hb (hml.trans hl.1.symm) hown (htb _ tw_373) (htb _ tw_374) (htb _ tw_17) (htb _ tw_375) (Nat.le_of_ble_eq_true rfl) (Nat.le_of_ble_eq_true rfl) (Nat.le_of_ble_eq_true rfl) (by show 0 + N ≤ N; omega) d_AR_copyOf1_32 ?_
  refine lv_topi (fun x9 ex9 => ?_)
  have ex9 : x9 = nI cap := ex9.trans (if_neg (nI_nlt h1 (by omega)))
  subst ex9
  have h_2 : f1 q1 = .inl (cO G, N, .inr (.inr (.inr (.inr (fun _ => none))))) := by rw [ef1]; exact va_up_self _ _ _
  have c0 : (nI cap).toNatClampNeg = cap := nI_clamp (by omega)
  have z0 : (0 : Int32).toNatClampNeg = 0 := by decide
  refine pz_copy hx hb (hml.trans hl.1.symm) hown (htb _ tw_376) (htb _ tw_378) (htb _ tw_377) (htb _ tw_19) hK hP hD hS 2 2 (List.mem_append_left _ hq) h_1 (l_in_new _ _) h_2 rfl rfl (by decide) (by decide) (nI_pos (by omega)) (by rw [c0, z0]; omega) (by rw [c0, z0]; omega) (fun i hi y hy => ?_) (Nat.le_of_ble_eq_true rfl) (Nat.le_of_ble_eq_true rfl) d_AR_copyOf1_35 (fun f2 H locs ef2 hP hD hS => ?_)
  · rw [c0] at hi
    rw [z0, Nat.zero_add] at hy
    refine el_any hz.1 hK hP (el_grow (hel i hi y hy) hnq1 ef1)
  rw [c0, z0] at ef2
  refine lv_aload_n hx hb d_AR_copyOf1_38 rfl (lv_at hl 0 rfl) ?_
  exact pz_aret hx hb hr (Or.inr ⟨_, rfl⟩) hlocks hK hP hD hS (Nat.le_of_ble_eq_true rfl) (by show 0 + N ≤ N; omega) ⟨hnq1, rfl, by rw [ef2, ef1, bx_uu]⟩ d_AR_copyOf1_39
set_option maxHeartbeats 4000000 in
set_option maxRecDepth 100000 in
/-- Arrays.copyOf(q, N) -/
theorem c_AR_copyOf0 (l : Launch) (G : gG) (L : List Nat) (f : Nat → va_E) (sz : Nat) (q cap N : Nat) (a : Nat → Option Nat) (hq : q ∈ L) (hf : f q = .inl (cO G, cap, .inr (.inr (.inr (.inr a))))) (h1 : cap ≤ N) (h2 : N ≤ 1000) (hel : ∀ i, i < cap → ∀ y, a i = some y → elOK L f y) : mR l y_AR_copyOf0 w_AR_copyOf0 ({ frames := 2, cells := 1, slots := N, locals := 63 }) G L f sz [.ref q, .int (nI N)] 1 N (fun u => u.1 ∉ L ∧ u.2.1 = L ++ [u.1] ∧ u.2.2 = va_up f u.1 (.inl (cO G, N, .inr (.inr (.inr (.inr (va_cpy a (fun _ => none) 0 0 cap))))))) := by
  refine pz_met (cc := prog_28_method_119_code) (maxL := 2) (ret := (some (.array (.object "java/lang/Object")))) (by decide) rfl (Nat.le_of_ble_eq_true rfl) ?_
  intro p e s m below meth c ls hx hb hr hml hts hown hlocks hin hsz hK hP hD hS hA hz hl
  have htb : ∀ w ∈ TB, w.before _ s = true := fun w h => hts w (List.mem_cons_of_mem _ h)
  have hl : lv_has ls 2 [(0, .ref q), (1, .int (nI N))] := hl
  refine lv_aload_n hx hb d_AR_copyOf0_0 rfl (lv_at hl 0 rfl) ?_
  refine lv_iload_n hx hb d_AR_copyOf0_1 rfl (lv_at hl 1 rfl) ?_
  refine lv_aload_n hx hb d_AR_copyOf0_2 rfl (lv_at hl 0 rfl) ?_
  refine va_getC (C := "[Ljava/lang/Object;") hx hb (hml.trans hl.1.symm) hown (htb _ tw_349) (va_Nw.use rfl (hz.1 _ tn_895)) (htb _ tw_894) (htb _ tw_350) (htb _ tw_366) hz.2.2.2.1 (pz_arecv hK hP hq hf rfl) (Nat.le_of_ble_eq_true rfl) (Nat.le_of_ble_eq_true rfl) d_AR_copyOf0_3 ?_
  refine pz_cr (va_runS (As := [.ref q, .int (nI N), .ref G.2.2.2.1]) (rest := []) ⟨hx, hb, hml, hown, hts⟩ (c_AR_copyOf1 l G L f _ q cap N a hq hf h1 h2 hel) (cwS 3 hts (tb_S tw_367 tw_368 tw_18 tw_369) rfl rfl rfl (by decide +kernel) ⟨(Nat.le_of_ble_eq_true rfl), (Nat.le_of_ble_eq_true rfl)⟩) (pz_pre (zz_ok _ _ _) hK hP hD hS hA hz) rfl rfl hl.1 rfl (lv_room (Nat.le_of_ble_eq_true rfl)) d_AR_copyOf0_6 ⟨(Nat.le_of_ble_eq_true rfl), (by show 0 + N ≤ N; omega)⟩) hP hD hS hA (fun r9 L2 f1 H locs hw hP hD hS => ?_)
  exact pz_aret hx hb hr (Or.inr ⟨_, rfl⟩) hlocks hK hP hD hS (Nat.le_of_ble_eq_true rfl) (by show 0 + N ≤ N; omega) hw d_AR_copyOf0_9
end
section
/-! lists: grow, add -/
theorem gr_len {cap : Nat} (h1 : 10 ≤ cap) (h2 : cap ≤ 600) : nI cap + (if nI (cap + 1) - nI cap < nI cap >>> ((1 : Int32) &&& 31) then nI cap >>> ((1 : Int32) &&& 31) else nI (cap + 1) - nI cap) = nI (cap + cap / 2) ∧ 0 < nI cap + (if nI (cap + 1) - nI cap < nI cap >>> ((1 : Int32) &&& 31) then nI cap >>> ((1 : Int32) &&& 31) else nI (cap + 1) - nI cap) ∧ nI cap + (if nI (cap + 1) - nI cap < nI cap >>> ((1 : Int32) &&& 31) then nI cap >>> ((1 : Int32) &&& 31) else nI (cap + 1) - nI cap) ≤ 2147483639 := by
  have es : nI cap >>> ((1 : Int32) &&& 31) = nI (cap / 2) := by
    have k := pk_shrN (n := cap) (by omega) ((1 : Int32) &&& 31) 1 (by decide)
    rw [Nat.pow_one] at k
    exact k
  have ed : nI (cap + 1) - nI cap = nI 1 := by
    have k := pk_sub (a := cap + 1) (b := cap) (by omega)
    rw [Nat.add_sub_cancel_left] at k
    exact k
  rw [es, ed, if_pos (nI_lt (by omega) (by omega)), nI_add]
  exact ⟨rfl, show nI 0 < _ from nI_lt (by omega) (by omega), show _ ≤ nI 2147483639 from nI_le (by omega) (by omega)⟩
theorem el_keep {L : List Nat} {f f1 : Nat → va_E} {y q : Nat} {x x1 : List Value} (h : elOK L f y) (ef : f1 = va_up f q (.inr (0, x1))) (hq : f q = .inr (0, x)) : elOK L f1 y := by
  obtain ⟨h1, ci, fs, h2, h3⟩ := h
  refine ⟨h1, ci, fs, ?_, h3⟩
  rw [ef, va_up_ne _ _ (pz_nec h2 hq (by omega))]
  exact h2
set_option maxHeartbeats 4000000 in
set_option maxRecDepth 100000 in
/-- grow(1), the first of all -/
theorem c_growI_first (l : Launch) (G : gG) (L : List Nat) (f : Nat → va_E) (sz : Nat) (q : Nat) (mo n : Int32) (hq : q ∈ L) (hf : f q = .inr (0, [.int mo, .ref G.2.2.1, .int n])) : mR l y_AL_grow1 w_AL_grow1 ({ frames := 1, cells := 1, slots := 10, locals := 40 }) G L f sz [.ref q, .int (nI 1)] 1 10 (fun u => u.1 ∉ L ∧ u.2.1 = L ++ [u.1] ∧ u.2.2 = va_up (va_up f u.1 (.inl (cO G, 10, .inr (.inr (.inr (.inr (fun _ => none))))))) q (.inr (0, [.int mo, .ref u.1, .int n]))) := by
  refine pz_met (cc := prog_27_method_6_code) (maxL := 4) (ret := (some (.array (.object "java/lang/Object")))) (by decide) rfl (Nat.le_of_ble_eq_true rfl) ?_
  intro p e s m below meth c ls hx hb hr hml hts hown hlocks hin hsz hK hP hD hS hA hz hl
  have htb : ∀ w ∈ TB, w.before _ s = true := fun w h => hts w (List.mem_cons_of_mem _ h)
  have hl : lv_has ls 4 [(0, .ref q), (1, .int (nI 1))] := hl
  refine lv_aload_n hx hb d_AL_grow1_0 rfl (lv_at hl 0 rfl) ?_
  refine pz_get (ci := 0) (C := "java/util/ArrayList") (T := T_AL) (N := 3) hx hb htb in_AL hown hK hP hq hf rfl 1 (by decide) (htb _ tw_49) (fun _ h9 => h9) rfl d_AL_grow1_1 ?_
  refine va_tlen hx hb hz.2.2.2.2.2.2.1 hS (v := 0) rfl d_AL_grow1_4 ?_
  refine lv_istore_n (lv' := [(2, .int 0), (0, .ref q), (1, .int (nI 1))]) hx hb d_AL_grow1_5 rfl hl (by decide) rfl (fun ls hl => ?_)
  refine lv_iload_n hx hb d_AL_grow1_6 rfl (lv_at hl 0 rfl) ?_
  refine lv_if_gt (tgt := 20) hx hb d_AL_grow1_7 (by decide) (fun c0 => absurd c0 (by decide)) (fun _ => ?_)
  refine lv_aload_n hx hb d_AL_grow1_10 rfl (lv_at hl 1 rfl) ?_
  refine pz_get (ci := 0) (C := "java/util/ArrayList") (T := T_AL) (N := 3) hx hb htb in_AL hown hK hP hq hf rfl 1 (by decide) (htb _ tw_49) (fun _ h9 => h9) rfl d_AL_grow1_11 ?_
  refine va_gets (C := "java/util/ArrayList") hx hb hz.2.2.2.2.2.1 hS hown (htb _ tw_47) (fun _ h9 => h9) d_AL_grow1_14 ?_
  refine lv_acmp_eq (rx := some G.2.2.1) (ry := some G.2.2.1) (tgt := 45) hx hb d_AL_grow1_17 (by decide) (fun _ => ?_) (fun h9 => absurd rfl h9)
  refine lv_aload_n hx hb d_AL_grow1_45 rfl (lv_at hl 1 rfl) ?_
  refine lv_bipush (v := 10) hx hb d_AL_grow1_46 (by decide) ?_
  refine lv_iload_n hx hb d_AL_grow1_48 rfl (lv_at hl 2 rfl) ?_
  refine va_mmax hx hb (hml.trans hl.1.symm) hown (htb _ tw_379) (htb _ tw_340) (htb _ tw_17) (htb _ tw_341) (Nat.le_of_ble_eq_true rfl) (Nat.le_of_ble_eq_true rfl) (Nat.le_of_ble_eq_true rfl) (Nat.le_of_ble_eq_true rfl) d_AL_grow1_49 ?_
  refine lv_topi (fun x1 ex1 => ?_)
  have ex1 : x1 = 10 := ex1.trans (by decide)
  subst ex1
  refine pz_newo hx hb hown (htb _ tw_380) hz.2.2.1 hK hP hD hS hA 2 rfl 10 (by decide) (by decide) (by decide) (Nat.le_of_ble_eq_true rfl) (Nat.le_of_ble_eq_true rfl) d_AL_grow1_52 (fun q2 L3 f4 H hnq2 eL3 ef4 hP hD hS => ?_)
  subst L3
  refine lv_dup_x1 hx hb d_AL_grow1_55 rfl rfl ?_
  have h_5 : f4 q = .inr (0, [.int mo, .ref G.2.2.1, .int n]) := by rw [ef4, va_up_ne _ _ (Ne.symm (pz_nef hnq2 hq))]; exact hf
  refine pz_put (ci := 0) (v := .ref q2) (ty := .array (.object "java/lang/Object")) (C := "java/util/ArrayList") (T := T_AL) (N := 3) hx hb htb in_AL ty_AL to_AL nm_AL hown hK hP hD hS (List.mem_append_left _ hq) h_5 rfl 1 (by decide) (htb _ tw_49) (fun _ h9 => h9) rfl rfl rfl rfl (Nat.le_of_ble_eq_true rfl) d_AL_grow1_56 (fun f6 H locs ef6 hP hD hS => ?_)
  have ef6 : f6 = va_up f4 q (.inr (0, [.int mo, .ref q2, .int n])) := ef6
  exact pz_aret hx hb hr (Or.inr ⟨_, rfl⟩) hlocks hK hP hD hS (Nat.le_of_ble_eq_true rfl) (Nat.le_of_ble_eq_true rfl) ⟨hnq2, rfl, by rw [ef6, ef4]⟩ d_AL_grow1_59
set_option maxHeartbeats 4000000 in
set_option maxRecDepth 100000 in
/-- grow(n + 1) of a full list -/
theorem c_growI_full (l : Launch) (G : gG) (L : List Nat) (f : Nat → va_E) (sz : Nat) (q d cap : Nat) (mo n : Int32) (a : Nat → Option Nat) (hq : q ∈ L) (hf : f q = .inr (0, [.int mo, .ref d, .int n])) (hd : d ∈ L) (hfd : f d = .inl (cO G, cap, .inr (.inr (.inr (.inr a))))) (h1 : 10 ≤ cap) (h2 : cap ≤ 600) (hel : ∀ i, i < cap → ∀ y, a i = some y → elOK L f y) : mR l y_AL_grow1 w_AL_grow1 ({ frames := 3, cells := 1, slots := (cap + cap / 2), locals := 84 }) G L f sz [.ref q, .int (nI (cap + 1))] 1 (cap + cap / 2) (fun u => u.1 ∉ L ∧ u.2.1 = L ++ [u.1] ∧ u.2.2 = va_up (va_up f u.1 (.inl (cO G, (cap + cap / 2), .inr (.inr (.inr (.inr (va_cpy a (fun _ => none) 0 0 cap))))))) q (.inr (0, [.int mo, .ref u.1, .int n]))) := by
  refine pz_met (cc := prog_27_method_6_code) (maxL := 4) (ret := (some (.array (.object "java/lang/Object")))) (by decide) rfl (Nat.le_of_ble_eq_true rfl) ?_
  intro p e s m below meth c ls hx hb hr hml hts hown hlocks hin hsz hK hP hD hS hA hz hl
  have htb : ∀ w ∈ TB, w.before _ s = true := fun w h => hts w (List.mem_cons_of_mem _ h)
  have hl : lv_has ls 4 [(0, .ref q), (1, .int (nI (cap + 1)))] := hl
  refine lv_aload_n hx hb d_AL_grow1_0 rfl (lv_at hl 0 rfl) ?_
  refine pz_get (ci := 0) (C := "java/util/ArrayList") (T := T_AL) (N := 3) hx hb htb in_AL hown hK hP hq hf rfl 1 (by decide) (htb _ tw_49) (fun _ h9 => h9) rfl d_AL_grow1_1 ?_
  refine pz_alen hx hb hK hP 2 hd hfd rfl d_AL_grow1_4 ?_
  refine lv_istore_n (lv' := [(2, .int (nI cap)), (0, .ref q), (1, .int (nI (cap + 1)))]) hx hb d_AL_grow1_5 rfl hl (by decide) rfl (fun ls hl => ?_)
  refine lv_iload_n hx hb d_AL_grow1_6 rfl (lv_at hl 0 rfl) ?_
  refine lv_if_gt (tgt := 20) hx hb d_AL_grow1_7 (by decide) (fun c_1 => ?_) (fun c_1 => ?_)
  · refine lv_iload_n hx hb d_AL_grow1_20 rfl (lv_at hl 0 rfl) ?_
    refine lv_iload_n hx hb d_AL_grow1_21 rfl (lv_at hl 2 rfl) ?_
    refine lv_iload_n hx hb d_AL_grow1_22 rfl (lv_at hl 0 rfl) ?_
    refine lv_isub hx hb d_AL_grow1_23 ?_
    refine lv_iload_n hx hb d_AL_grow1_24 rfl (lv_at hl 0 rfl) ?_
    refine lv_iconst (v := 1) hx hb d_AL_grow1_25 (by decide) ?_
    refine lv_ishr hx hb d_AL_grow1_26 ?_
    refine vp_callSi (va_Run.run (va_runS (As := [.int (nI cap), .int (nI (cap + 1) - nI cap), .int (nI cap >>> ((1 : Int32) &&& 31))]) (rest := []) ⟨hx, hb, hml, hown, hts⟩ (c_AS_newLength l (nI cap) (nI (cap + 1) - nI cap) (nI cap >>> ((1 : Int32) &&& 31)) (gr_len h1 h2).2.1 (gr_len h1 h2).2.2) (va_cwS 3 hts (tb_SS tw_336 tw_337 tw_16 tw_338) rfl rfl rfl (by decide +kernel) ⟨(Nat.le_of_ble_eq_true rfl), (Nat.le_of_ble_eq_true rfl)⟩) pz_preP rfl rfl hl.1 rfl (lv_room (Nat.le_of_ble_eq_true rfl)) d_AL_grow1_27 ⟨(Nat.le_of_ble_eq_true rfl), (by show 0 + 0 ≤ (cap + cap / 2); omega)⟩)) (fun r5 hw => ?_)
    have hw : r5 = nI (cap + cap / 2) := hw.trans (gr_len h1 h2).1
    subst hw
    refine lv_istore_n (lv' := [(3, .int (nI (cap + cap / 2))), (2, .int (nI cap)), (0, .ref q), (1, .int (nI (cap + 1)))]) hx hb d_AL_grow1_30 rfl hl (by decide) rfl (fun ls hl => ?_)
    refine lv_aload_n hx hb d_AL_grow1_31 rfl (lv_at hl 2 rfl) ?_
    refine lv_aload_n hx hb d_AL_grow1_32 rfl (lv_at hl 2 rfl) ?_
    refine pz_get (ci := 0) (C := "java/util/ArrayList") (T := T_AL) (N := 3) hx hb htb in_AL hown hK hP hq hf rfl 1 (by decide) (htb _ tw_49) (fun _ h9 => h9) rfl d_AL_grow1_33 ?_
    refine lv_iload_n hx hb d_AL_grow1_36 rfl (lv_at hl 0 rfl) ?_
    refine pz_cr (va_runS (As := [.ref d, .int (nI (cap + cap / 2))]) (rest := [.ref q]) ⟨hx, hb, hml, hown, hts⟩ (c_AR_copyOf0 l G L f _ d cap (cap + cap / 2) a hd hfd (by omega) (by omega) hel) (va_cwS 2 hts (tb_SS tw_346 tw_347 tw_18 tw_348) rfl rfl rfl (by decide +kernel) ⟨(Nat.le_of_ble_eq_true rfl), (Nat.le_of_ble_eq_true rfl)⟩) (pz_pre (zz_ok _ _ _) hK hP hD hS hA hz) rfl rfl hl.1 rfl (lv_room (Nat.le_of_ble_eq_true rfl)) d_AL_grow1_37 ⟨(Nat.le_of_ble_eq_true rfl), (by show 0 + (cap + cap / 2) ≤ (cap + cap / 2); omega)⟩) hP hD hS hA (fun r9 L3 f2 H locs hw hP hD hS => ?_)
    obtain ⟨hw1, hw2, hw3⟩ := hw
    have hnr9 : r9 ∉ L := hw1
    have eL3 : L3 = L ++ [r9] := hw2
    have ef2 : f2 = va_up f r9 (.inl (cO G, (cap + cap / 2), .inr (.inr (.inr (.inr (va_cpy a (fun _ => none) 0 0 cap)))))) := hw3
    subst L3
    refine lv_dup_x1 hx hb d_AL_grow1_40 rfl rfl ?_
    have h_4 : f2 q = .inr (0, [.int mo, .ref d, .int n]) := by rw [ef2, va_up_ne _ _ (Ne.symm (pz_nef hnr9 hq))]; exact hf
    refine pz_put (ci := 0) (v := .ref r9) (ty := .array (.object "java/lang/Object")) (C := "java/util/ArrayList") (T := T_AL) (N := 3) hx hb htb in_AL ty_AL to_AL nm_AL hown hK hP hD hS (List.mem_append_left _ hq) h_4 rfl 1 (by decide) (htb _ tw_49) (fun _ h9 => h9) rfl rfl rfl rfl (Nat.le_of_ble_eq_true rfl) d_AL_grow1_41 (fun f5 H locs ef5 hP hD hS => ?_)
    have ef5 : f5 = va_up f2 q (.inr (0, [.int mo, .ref r9, .int n])) := ef5
    exact pz_aret hx hb hr (Or.inr ⟨_, rfl⟩) hlocks hK hP hD hS (Nat.le_of_ble_eq_true rfl) (by show 0 + (cap + cap / 2) ≤ (cap + cap / 2); omega) ⟨hnr9, rfl, by rw [ef5, ef2]⟩ d_AL_grow1_44
  · exact absurd (show nI 0 < nI cap from nI_lt (by omega) (by omega)) c_1
set_option maxHeartbeats 4000000 in
set_option maxRecDepth 100000 in
theorem c_grow_first (l : Launch) (G : gG) (L : List Nat) (f : Nat → va_E) (sz : Nat) (q : Nat) (mo : Int32) (hq : q ∈ L) (hf : f q = .inr (0, [.int mo, .ref G.2.2.1, .int 0])) : mR l y_AL_grow0 w_AL_grow0 ({ frames := 4, cells := 1, slots := 10, locals := 107 }) G L f sz [.ref q] 1 10 (fun u => u.1 ∉ L ∧ u.2.1 = L ++ [u.1] ∧ u.2.2 = va_up (va_up f u.1 (.inl (cO G, 10, .inr (.inr (.inr (.inr (fun _ => none))))))) q (.inr (0, [.int mo, .ref u.1, .int 0]))) := by
  refine pz_met (cc := prog_27_method_7_code) (maxL := 1) (ret := (some (.array (.object "java/lang/Object")))) (by decide) rfl (Nat.le_of_ble_eq_true rfl) ?_
  intro p e s m below meth c ls hx hb hr hml hts hown hlocks hin hsz hK hP hD hS hA hz hl
  have htb : ∀ w ∈ TB, w.before _ s = true := fun w h => hts w (List.mem_cons_of_mem _ h)
  have hl : lv_has ls 1 [(0, .ref q)] := hl
  refine lv_aload_n hx hb d_AL_grow0_0 rfl (lv_at hl 0 rfl) ?_
  refine lv_aload_n hx hb d_AL_grow0_1 rfl (lv_at hl 0 rfl) ?_
  refine pz_get (ci := 0) (C := "java/util/ArrayList") (T := T_AL) (N := 3) hx hb htb in_AL hown hK hP hq hf rfl 2 (by decide) (htb _ tw_50) (fun _ h9 => h9) rfl d_AL_grow0_2 ?_
  refine lv_iconst (v := 1) hx hb d_AL_grow0_5 (by decide) ?_
  refine lv_iadd hx hb d_AL_grow0_6 ?_
  refine lv_topi (fun x1 ex1 => ?_)
  have ex1 : x1 = nI 1 := ex1.trans (by decide)
  subst ex1
  refine pz_cr (va_runV (As := [.int (nI 1)]) (rest := []) ⟨hx, hb, hml, hown, hts⟩ (c_growI_first l G L f _ q mo 0 hq hf) (cwV 1 hts (tb_V tw_332 tw_334 tp_5 tw_4 tw_335) rfl rfl rfl (by decide +kernel) ⟨(Nat.le_of_ble_eq_true rfl), (Nat.le_of_ble_eq_true rfl)⟩) (pz_preV (zz_ok _ _ _) hK hP hD hS hA hz (ci := 0) rfl rfl hq hf) rfl rfl hl.1 rfl (lv_room (Nat.le_of_ble_eq_true rfl)) d_AL_grow0_7 ⟨(Nat.le_of_ble_eq_true rfl), (Nat.le_of_ble_eq_true rfl)⟩) hP hD hS hA (fun r9 L3 f2 H locs hw hP hD hS => ?_)
  exact pz_aret hx hb hr (Or.inr ⟨_, rfl⟩) hlocks hK hP hD hS (Nat.le_of_ble_eq_true rfl) (Nat.le_of_ble_eq_true rfl) hw d_AL_grow0_10
set_option maxHeartbeats 4000000 in
set_option maxRecDepth 100000 in
theorem c_grow_full (l : Launch) (G : gG) (L : List Nat) (f : Nat → va_E) (sz : Nat) (q d cap : Nat) (mo : Int32) (a : Nat → Option Nat) (hq : q ∈ L) (hf : f q = .inr (0, [.int mo, .ref d, .int (nI cap)])) (hd : d ∈ L) (hfd : f d = .inl (cO G, cap, .inr (.inr (.inr (.inr a))))) (h1 : 10 ≤ cap) (h2 : cap ≤ 600) (hel : ∀ i, i < cap → ∀ y, a i = some y → elOK L f y) : mR l y_AL_grow0 w_AL_grow0 ({ frames := 4, cells := 1, slots := (cap + cap / 2), locals := 107 }) G L f sz [.ref q] 1 (cap + cap / 2) (fun u => u.1 ∉ L ∧ u.2.1 = L ++ [u.1] ∧ u.2.2 = va_up (va_up f u.1 (.inl (cO G, (cap + cap / 2), .inr (.inr (.inr (.inr (va_cpy a (fun _ => none) 0 0 cap))))))) q (.inr (0, [.int mo, .ref u.1, .int (nI cap)]))) := by
  refine pz_met (cc := prog_27_method_7_code) (maxL := 1) (ret := (some (.array (.object "java/lang/Object")))) (by decide) rfl (Nat.le_of_ble_eq_true rfl) ?_
  intro p e s m below meth c ls hx hb hr hml hts hown hlocks hin hsz hK hP hD hS hA hz hl
  have htb : ∀ w ∈ TB, w.before _ s = true := fun w h => hts w (List.mem_cons_of_mem _ h)
  have hl : lv_has ls 1 [(0, .ref q)] := hl
  refine lv_aload_n hx hb d_AL_grow0_0 rfl (lv_at hl 0 rfl) ?_
  refine lv_aload_n hx hb d_AL_grow0_1 rfl (lv_at hl 0 rfl) ?_
  refine pz_get (ci := 0) (C := "java/util/ArrayList") (T := T_AL) (N := 3) hx hb htb in_AL hown hK hP hq hf rfl 2 (by decide) (htb _ tw_50) (fun _ h9 => h9) rfl d_AL_grow0_2 ?_
  refine lv_iconst (v := 1) hx hb d_AL_grow0_5 (by decide) ?_
  refine lv_iadd hx hb d_AL_grow0_6 ?_
  refine lv_topi (fun x1 ex1 => ?_)
  have ex1 : x1 = nI (cap + 1) := ex1.trans (nI_1 cap)
  subst ex1
  refine pz_cr (va_runV (As := [.int (nI (cap + 1))]) (rest := []) ⟨hx, hb, hml, hown, hts⟩ (c_growI_full l G L f _ q d cap mo (nI cap) a hq hf hd hfd h1 h2 hel) (cwV 1 hts (tb_V tw_332 tw_334 tp_5 tw_4 tw_335) rfl rfl rfl (by decide +kernel) ⟨(Nat.le_of_ble_eq_true rfl), (Nat.le_of_ble_eq_true rfl)⟩) (pz_preV (zz_ok _ _ _) hK hP hD hS hA hz (ci := 0) rfl rfl hq hf) rfl rfl hl.1 rfl (lv_room (Nat.le_of_ble_eq_true rfl)) d_AL_grow0_7 ⟨(Nat.le_of_ble_eq_true rfl), (by show 0 + (cap + cap / 2) ≤ (cap + cap / 2); omega)⟩) hP hD hS hA (fun r9 L3 f2 H locs hw hP hD hS => ?_)
  exact pz_aret hx hb hr (Or.inr ⟨_, rfl⟩) hlocks hK hP hD hS (Nat.le_of_ble_eq_true rfl) (by show 0 + (cap + cap / 2) ≤ (cap + cap / 2); omega) hw d_AL_grow0_10
set_option maxHeartbeats 4000000 in
set_option maxRecDepth 100000 in
theorem c_add1_room (l : Launch) (G : gG) (L : List Nat) (f : Nat → va_E) (sz : Nat) (q d cap n y : Nat) (mo : Int32) (a : Nat → Option Nat) (hq : q ∈ L) (hf : f q = .inr (0, [.int mo, .ref d, .int (nI n)])) (hd : d ∈ L) (hfd : f d = .inl (cO G, cap, .inr (.inr (.inr (.inr a))))) (h1 : n < cap) (h2 : cap ≤ 1000) (he : elOK L f y) : mV l y_AL_add1 w_AL_add1 ({ frames := 5, cells := 0, slots := 0, locals := 127 }) G L f sz [.ref q, .ref y, .ref d, .int (nI n)] 0 0 (fun u => u = (L, va_up (va_up f d (.inl (cO G, cap, .inr (.inr (.inr (.inr (va_up a n (some y)))))))) q (.inr (0, [.int mo, .ref d, .int (nI (n + 1))])))) := by
  refine pz_met (cc := prog_27_method_24_code) (maxL := 4) (ret := none) (by decide) rfl (Nat.le_of_ble_eq_true rfl) ?_
  intro p e s m below meth c ls hx hb hr hml hts hown hlocks hin hsz hK hP hD hS hA hz hl
  have htb : ∀ w ∈ TB, w.before _ s = true := fun w h => hts w (List.mem_cons_of_mem _ h)
  have hl : lv_has ls 4 [(0, .ref q), (1, .ref y), (2, .ref d), (3, .int (nI n))] := hl
  refine lv_iload_n hx hb d_AL_add1_0 rfl (lv_at hl 3 rfl) ?_
  refine lv_aload_n hx hb d_AL_add1_1 rfl (lv_at hl 2 rfl) ?_
  refine pz_alen hx hb hK hP 2 hd hfd rfl d_AL_add1_2 ?_
  refine lv_icmp_ne (tgt := 11) hx hb d_AL_add1_3 (by decide) (fun c_1 => ?_) (fun c_1 => ?_)
  · refine lv_aload_n hx hb d_AL_add1_11 rfl (lv_at hl 2 rfl) ?_
    refine lv_iload_n hx hb d_AL_add1_12 rfl (lv_at hl 3 rfl) ?_
    refine lv_aload_n hx hb d_AL_add1_13 rfl (lv_at hl 1 rfl) ?_
    have hin9 : vp_in (nI n) cap := vp_in_nI h1 (by omega)
    refine pz_astq hx hb hK hP hD hS 2 hd hfd rfl (el_any hz.1 hK hP he) hin9 d_AL_add1_14 (fun f2 H locs ef2 hP hD hS => ?_)
    rw [nI_clamp (by omega)] at ef2
    refine lv_aload_n hx hb d_AL_add1_15 rfl (lv_at hl 0 rfl) ?_
    refine lv_iload_n hx hb d_AL_add1_16 rfl (lv_at hl 3 rfl) ?_
    refine lv_iconst (v := 1) hx hb d_AL_add1_17 (by decide) ?_
    refine lv_iadd hx hb d_AL_add1_18 ?_
    refine lv_topi (fun x3 ex3 => ?_)
    have ex3 : x3 = nI (n + 1) := ex3.trans (nI_1 n)
    subst ex3
    have h_4 : f2 q = .inr (0, [.int mo, .ref d, .int (nI n)]) := by rw [ef2, va_up_ne _ _ (Ne.symm (pz_nea hfd hf))]; exact hf
    refine pz_put (ci := 0) (v := .int (nI (n + 1))) (ty := .int) (C := "java/util/ArrayList") (T := T_AL) (N := 3) hx hb htb in_AL ty_AL to_AL nm_AL hown hK hP hD hS hq h_4 rfl 2 (by decide) (htb _ tw_50) (fun _ h9 => h9) rfl rfl rfl rfl (Nat.le_of_ble_eq_true rfl) d_AL_add1_19 (fun f5 H locs ef5 hP hD hS => ?_)
    have ef5 : f5 = va_up f2 q (.inr (0, [.int mo, .ref d, .int (nI (n + 1))])) := ef5
    exact pz_vret hx hb hr hlocks hK hP hD hS (Nat.le_of_ble_eq_true rfl) (Nat.le_of_ble_eq_true rfl) (by rw [ef5, ef2]) d_AL_add1_22
  · exact absurd ((nI_eq (by omega) (by omega)).mp c_1) (by omega)
set_option maxHeartbeats 4000000 in
set_option maxRecDepth 100000 in
theorem c_add1_first (l : Launch) (G : gG) (L : List Nat) (f : Nat → va_E) (sz : Nat) (q y : Nat) (mo : Int32) (hq : q ∈ L) (hf : f q = .inr (0, [.int mo, .ref G.2.2.1, .int 0])) (he : elOK L f y) : mV l y_AL_add1 w_AL_add1 ({ frames := 5, cells := 1, slots := 10, locals := 127 }) G L f sz [.ref q, .ref y, .ref G.2.2.1, .int 0] 1 10 (fun u => ∃ r9, r9 ∉ L ∧ u = (L ++ [r9], va_up (va_up f r9 (.inl (cO G, 10, .inr (.inr (.inr (.inr (va_up (fun _ => none) 0 (some y)))))))) q (.inr (0, [.int mo, .ref r9, .int (nI 1)])))) := by
  refine pz_met (cc := prog_27_method_24_code) (maxL := 4) (ret := none) (by decide) rfl (Nat.le_of_ble_eq_true rfl) ?_
  intro p e s m below meth c ls hx hb hr hml hts hown hlocks hin hsz hK hP hD hS hA hz hl
  have htb : ∀ w ∈ TB, w.before _ s = true := fun w h => hts w (List.mem_cons_of_mem _ h)
  have hl : lv_has ls 4 [(0, .ref q), (1, .ref y), (2, .ref G.2.2.1), (3, .int 0)] := hl
  refine lv_iload_n hx hb d_AL_add1_0 rfl (lv_at hl 3 rfl) ?_
  refine lv_aload_n hx hb d_AL_add1_1 rfl (lv_at hl 2 rfl) ?_
  refine va_tlen hx hb hz.2.2.2.2.2.2.1 hS (v := 0) rfl d_AL_add1_2 ?_
  refine lv_icmp_ne (tgt := 11) hx hb d_AL_add1_3 (by decide) (fun c0 => absurd c0 (by decide)) (fun _ => ?_)
  refine lv_aload_n hx hb d_AL_add1_6 rfl (lv_at hl 0 rfl) ?_
  refine pz_cr (va_runV (As := []) (rest := []) ⟨hx, hb, hml, hown, hts⟩ (c_grow_first l G L f _ q mo hq hf) (cwV 0 hts (tb_V tw_328 tw_330 tp_4 tw_4 tw_331) rfl rfl rfl (by decide +kernel) ⟨(Nat.le_of_ble_eq_true rfl), (Nat.le_of_ble_eq_true rfl)⟩) (pz_preV (zz_ok _ _ _) hK hP hD hS hA hz (ci := 0) rfl rfl hq hf) rfl rfl hl.1 rfl (lv_room (Nat.le_of_ble_eq_true rfl)) d_AL_add1_7 ⟨(Nat.le_of_ble_eq_true rfl), (Nat.le_of_ble_eq_true rfl)⟩) hP hD hS hA (fun r9 L2 f1 H locs hw hP hD hS => ?_)
  obtain ⟨hw1, hw2, hw3⟩ := hw
  have hnr9 : r9 ∉ L := hw1
  have eL2 : L2 = L ++ [r9] := hw2
  obtain ⟨g9, eg9⟩ : ∃ y, y = va_up f r9 (.inl (cO G, 10, .inr (.inr (.inr (.inr (fun _ => none)))))) := ⟨_, rfl⟩
  have ef1 : f1 = va_up g9 q (.inr (0, [.int mo, .ref r9, .int 0])) := hw3.trans (by rw [eg9])
  subst L2
  refine lv_astore_n (lv' := [(2, .ref r9), (0, .ref q), (1, .ref y), (3, .int 0)]) hx hb d_AL_add1_10 rfl hl (by decide) rfl (fun ls hl => ?_)
  refine lv_aload_n hx hb d_AL_add1_11 rfl (lv_at hl 0 rfl) ?_
  refine lv_iload_n hx hb d_AL_add1_12 rfl (lv_at hl 3 rfl) ?_
  refine lv_aload_n hx hb d_AL_add1_13 rfl (lv_at hl 2 rfl) ?_
  have h_4 : g9 r9 = .inl (cO G, 10, .inr (.inr (.inr (.inr (fun _ => none))))) := by rw [eg9]; exact va_up_self _ _ _
  have h_3 : f1 r9 = .inl (cO G, 10, .inr (.inr (.inr (.inr (fun _ => none))))) := by rw [ef1, va_up_ne _ _ (pz_nef hnr9 hq)]; exact h_4
  have hin9 : vp_in 0 10 := vp_in_nI (n := 0) (N := 10) (by decide) (by decide)
  refine pz_astq hx hb hK hP hD hS 2 (l_in_new _ _) h_3 rfl (el_any hz.1 hK hP (el_keep (el_grow he hnr9 eg9) ef1 (by rw [eg9, va_up_ne _ _ (Ne.symm (pz_nef hnr9 hq))]; exact hf))) hin9 d_AL_add1_14 (fun f5 H locs ef5 hP hD hS => ?_)
  have ef5 : f5 = va_up f1 r9 (.inl (cO G, 10, .inr (.inr (.inr (.inr (va_up (fun _ => none) 0 (some y))))))) := ef5
  refine lv_aload_n hx hb d_AL_add1_15 rfl (lv_at hl 1 rfl) ?_
  refine lv_iload_n hx hb d_AL_add1_16 rfl (lv_at hl 3 rfl) ?_
  refine lv_iconst (v := 1) hx hb d_AL_add1_17 (by decide) ?_
  refine lv_iadd hx hb d_AL_add1_18 ?_
  refine lv_topi (fun x6 ex6 => ?_)
  have ex6 : x6 = nI 1 := ex6.trans (by decide)
  subst ex6
  have h_8 : f1 q = .inr (0, [.int mo, .ref r9, .int 0]) := by rw [ef1]; exact va_up_self _ _ _
  have h_7 : f5 q = .inr (0, [.int mo, .ref r9, .int 0]) := by rw [ef5, va_up_ne _ _ (Ne.symm (pz_nef hnr9 hq))]; exact h_8
  refine pz_put (ci := 0) (v := .int (nI 1)) (ty := .int) (C := "java/util/ArrayList") (T := T_AL) (N := 3) hx hb htb in_AL ty_AL to_AL nm_AL hown hK hP hD hS (List.mem_append_left _ hq) h_7 rfl 2 (by decide) (htb _ tw_50) (fun _ h9 => h9) rfl rfl rfl rfl (Nat.le_of_ble_eq_true rfl) d_AL_add1_19 (fun f9 H locs ef9 hP hD hS => ?_)
  have ef9 : f9 = va_up f5 q (.inr (0, [.int mo, .ref r9, .int (nI 1)])) := ef9
  exact pz_vret hx hb hr hlocks hK hP hD hS (Nat.le_of_ble_eq_true rfl) (Nat.le_of_ble_eq_true rfl) ⟨r9, hnr9, by rw [ef9, ef5, ef1, eg9, pz_up_comm _ _ _ (Ne.symm (pz_nef hnr9 hq)), bx_uu, bx_uu]⟩ d_AL_add1_22
set_option maxHeartbeats 4000000 in
set_option maxRecDepth 100000 in
theorem c_add1_full (l : Launch) (G : gG) (L : List Nat) (f : Nat → va_E) (sz : Nat) (q d cap y : Nat) (mo : Int32) (a : Nat → Option Nat) (hq : q ∈ L) (hf : f q = .inr (0, [.int mo, .ref d, .int (nI cap)])) (hd : d ∈ L) (hfd : f d = .inl (cO G, cap, .inr (.inr (.inr (.inr a))))) (h1 : 10 ≤ cap) (h2 : cap ≤ 600) (hel : ∀ i, i < cap → ∀ y, a i = some y → elOK L f y) (he : elOK L f y) : mV l y_AL_add1 w_AL_add1 ({ frames := 5, cells := 1, slots := (cap + cap / 2), locals := 127 }) G L f sz [.ref q, .ref y, .ref d, .int (nI cap)] 1 (cap + cap / 2) (fun u => ∃ r9, r9 ∉ L ∧ u = (L ++ [r9], va_up (va_up f r9 (.inl (cO G, (cap + cap / 2), .inr (.inr (.inr (.inr (va_up (va_cpy a (fun _ => none) 0 0 cap) cap (some y)))))))) q (.inr (0, [.int mo, .ref r9, .int (nI (cap + 1))])))) := by
  refine pz_met (cc := prog_27_method_24_code) (maxL := 4) (ret := none) (by decide) rfl (Nat.le_of_ble_eq_true rfl) ?_
  intro p e s m below meth c ls hx hb hr hml hts hown hlocks hin hsz hK hP hD hS hA hz hl
  have htb : ∀ w ∈ TB, w.before _ s = true := fun w h => hts w (List.mem_cons_of_mem _ h)
  have hl : lv_has ls 4 [(0, .ref q), (1, .ref y), (2, .ref d), (3, .int (nI cap))] := hl
  refine lv_iload_n hx hb d_AL_add1_0 rfl (lv_at hl 3 rfl) ?_
  refine lv_aload_n hx hb d_AL_add1_1 rfl (lv_at hl 2 rfl) ?_
  refine pz_alen hx hb hK hP 2 hd hfd rfl d_AL_add1_2 ?_
  refine lv_icmp_ne (tgt := 11) hx hb d_AL_add1_3 (by decide) (fun c_1 => ?_) (fun c_1 => ?_)
  · exact absurd rfl c_1
  · refine lv_aload_n hx hb d_AL_add1_6 rfl (lv_at hl 0 rfl) ?_
    refine pz_cr (va_runV (As := []) (rest := []) ⟨hx, hb, hml, hown, hts⟩ (c_grow_full l G L f _ q d cap mo a hq hf hd hfd h1 h2 hel) (cwV 0 hts (tb_V tw_328 tw_330 tp_4 tw_4 tw_331) rfl rfl rfl (by decide +kernel) ⟨(Nat.le_of_ble_eq_true rfl), (Nat.le_of_ble_eq_true rfl)⟩) (pz_preV (zz_ok _ _ _) hK hP hD hS hA hz (ci := 0) rfl rfl hq hf) rfl rfl hl.1 rfl (lv_room (Nat.le_of_ble_eq_true rfl)) d_AL_add1_7 ⟨(Nat.le_of_ble_eq_true rfl), (by show 0 + (cap + cap / 2) ≤ (cap + cap / 2); omega)⟩) hP hD hS hA (fun r9 L3 f2 H locs hw hP hD hS => ?_)
    obtain ⟨hw1, hw2, hw3⟩ := hw
    have hnr9 : r9 ∉ L := hw1
    have eL3 : L3 = L ++ [r9] := hw2
    obtain ⟨g9, eg9⟩ : ∃ y, y = va_up f r9 (.inl (cO G, (cap + cap / 2), .inr (.inr (.inr (.inr (va_cpy a (fun _ => none) 0 0 cap)))))) := ⟨_, rfl⟩
    have ef2 : f2 = va_up g9 q (.inr (0, [.int mo, .ref r9, .int (nI cap)])) := hw3.trans (by rw [eg9])
    subst L3
    refine lv_astore_n (lv' := [(2, .ref r9), (0, .ref q), (1, .ref y), (3, .int (nI cap))]) hx hb d_AL_add1_10 rfl hl (by decide) rfl (fun ls hl => ?_)
    refine lv_aload_n hx hb d_AL_add1_11 rfl (lv_at hl 0 rfl) ?_
    refine lv_iload_n hx hb d_AL_add1_12 rfl (lv_at hl 3 rfl) ?_
    refine lv_aload_n hx hb d_AL_add1_13 rfl (lv_at hl 2 rfl) ?_
    have h_5 : g9 r9 = .inl (cO G, (cap + cap / 2), .inr (.inr (.inr (.inr (va_cpy a (fun _ => none) 0 0 cap))))) := by rw [eg9]; exact va_up_self _ _ _
    have h_4 : f2 r9 = .inl (cO G, (cap + cap / 2), .inr (.inr (.inr (.inr (va_cpy a (fun _ => none) 0 0 cap))))) := by rw [ef2, va_up_ne _ _ (pz_nef hnr9 hq)]; exact h_5
    have hin9 : vp_in (nI cap) (cap + cap / 2) := vp_in_nI (by omega) (by omega)
    refine pz_astq hx hb hK hP hD hS 2 (l_in_new _ _) h_4 rfl (el_any hz.1 hK hP (el_keep (el_grow he hnr9 eg9) ef2 (by rw [eg9, va_up_ne _ _ (Ne.symm (pz_nef hnr9 hq))]; exact hf))) hin9 d_AL_add1_14 (fun f6 H locs ef6 hP hD hS => ?_)
    rw [nI_clamp (by omega)] at ef6
    refine lv_aload_n hx hb d_AL_add1_15 rfl (lv_at hl 1 rfl) ?_
    refine lv_iload_n hx hb d_AL_add1_16 rfl (lv_at hl 3 rfl) ?_
    refine lv_iconst (v := 1) hx hb d_AL_add1_17 (by decide) ?_
    refine lv_iadd hx hb d_AL_add1_18 ?_
    refine lv_topi (fun x7 ex7 => ?_)
    have ex7 : x7 = nI (cap + 1) := ex7.trans (nI_1 cap)
    subst ex7
    have h_9 : f2 q = .inr (0, [.int mo, .ref r9, .int (nI cap)]) := by rw [ef2]; exact va_up_self _ _ _
    have h_8 : f6 q = .inr (0, [.int mo, .ref r9, .int (nI cap)]) := by rw [ef6, va_up_ne _ _ (Ne.symm (pz_nef hnr9 hq))]; exact h_9
    refine pz_put (ci := 0) (v := .int (nI (cap + 1))) (ty := .int) (C := "java/util/ArrayList") (T := T_AL) (N := 3) hx hb htb in_AL ty_AL to_AL nm_AL hown hK hP hD hS (List.mem_append_left _ hq) h_8 rfl 2 (by decide) (htb _ tw_50) (fun _ h9 => h9) rfl rfl rfl rfl (Nat.le_of_ble_eq_true rfl) d_AL_add1_19 (fun f10 H locs ef10 hP hD hS => ?_)
    have ef10 : f10 = va_up f6 q (.inr (0, [.int mo, .ref r9, .int (nI (cap + 1))])) := ef10
    exact pz_vret hx hb hr hlocks hK hP hD hS (Nat.le_of_ble_eq_true rfl) (by show 0 + (cap + cap / 2) ≤ (cap + cap / 2); omega) ⟨r9, hnr9, by rw [ef10, ef6, ef2, eg9, pz_up_comm _ _ _ (Ne.symm (pz_nef hnr9 hq)), bx_uu, bx_uu]⟩ d_AL_add1_22
set_option maxHeartbeats 4000000 in
set_option maxRecDepth 100000 in
theorem c_add0_room (l : Launch) (G : gG) (L : List Nat) (f : Nat → va_E) (sz : Nat) (q d cap n y : Nat) (mo : Int32) (a : Nat → Option Nat) (hq : q ∈ L) (hf : f q = .inr (0, [.int mo, .ref d, .int (nI n)])) (hd : d ∈ L) (hfd : f d = .inl (cO G, cap, .inr (.inr (.inr (.inr a))))) (h1 : n < cap) (h2 : cap ≤ 1000) (he : elOK L f y) : mI l y_AL_add0 w_AL_add0 ({ frames := 6, cells := 1, slots := 900, locals := 150 }) G L f sz [.ref q, .ref y] 1 900 (fun r u => r = 1 ∧ u = (L, va_up (va_up f d (.inl (cO G, cap, .inr (.inr (.inr (.inr (va_up a n (some y)))))))) q (.inr (0, [.int (mo + 1), .ref d, .int (nI (n + 1))])))) := by
  refine pz_met (cc := prog_27_method_25_code) (maxL := 2) (ret := (some .boolean)) (by decide) rfl (Nat.le_of_ble_eq_true rfl) ?_
  intro p e s m below meth c ls hx hb hr hml hts hown hlocks hin hsz hK hP hD hS hA hz hl
  have htb : ∀ w ∈ TB, w.before _ s = true := fun w h => hts w (List.mem_cons_of_mem _ h)
  have hl : lv_has ls 2 [(0, .ref q), (1, .ref y)] := hl
  refine lv_aload_n hx hb d_AL_add0_0 rfl (lv_at hl 0 rfl) ?_
  refine lv_dup hx hb d_AL_add0_1 rfl ?_
  refine pz_get (ci := 0) (C := "java/util/ArrayList") (T := T_AL) (N := 3) hx hb htb in_AL hown hK hP hq hf rfl 0 (by decide) (htb _ tw_52) (fun x h9 => u_same (htb _ tw_53) x h9) rfl d_AL_add0_2 ?_
  refine lv_iconst (v := 1) hx hb d_AL_add0_5 (by decide) ?_
  refine lv_iadd hx hb d_AL_add0_6 ?_
  refine pz_put (ci := 0) (v := .int (mo + 1)) (ty := .int) (C := "java/util/ArrayList") (T := T_AL) (N := 3) hx hb htb in_AL ty_AL to_AL nm_AL hown hK hP hD hS hq hf rfl 0 (by decide) (htb _ tw_52) (fun x h9 => u_same (htb _ tw_53) x h9) rfl rfl rfl rfl (Nat.le_of_ble_eq_true rfl) d_AL_add0_7 (fun f1 H locs ef1 hP hD hS => ?_)
  have ef1 : f1 = va_up f q (.inr (0, [.int (mo + 1), .ref d, .int (nI n)])) := ef1
  refine lv_aload_n hx hb d_AL_add0_10 rfl (lv_at hl 0 rfl) ?_
  refine lv_aload_n hx hb d_AL_add0_11 rfl (lv_at hl 1 rfl) ?_
  refine lv_aload_n hx hb d_AL_add0_12 rfl (lv_at hl 0 rfl) ?_
  have h_2 : f1 q = .inr (0, [.int (mo + 1), .ref d, .int (nI n)]) := by rw [ef1]; exact va_up_self _ _ _
  refine pz_get (ci := 0) (C := "java/util/ArrayList") (T := T_AL) (N := 3) hx hb htb in_AL hown hK hP hq h_2 rfl 1 (by decide) (htb _ tw_49) (fun _ h9 => h9) rfl d_AL_add0_13 ?_
  refine lv_aload_n hx hb d_AL_add0_16 rfl (lv_at hl 0 rfl) ?_
  refine pz_get (ci := 0) (C := "java/util/ArrayList") (T := T_AL) (N := 3) hx hb htb in_AL hown hK hP hq h_2 rfl 2 (by decide) (htb _ tw_50) (fun _ h9 => h9) rfl d_AL_add0_17 ?_
  have h_3 : f1 d = .inl (cO G, cap, .inr (.inr (.inr (.inr a)))) := by rw [ef1, va_up_ne _ _ (pz_nea hfd hf)]; exact hfd
  refine pz_cv (va_runV (As := [.ref y, .ref d, .int (nI n)]) (rest := []) ⟨hx, hb, hml, hown, hts⟩ (c_add1_room l G L f1 _ q d cap n y (mo + 1) a hq h_2 hd h_3 h1 h2 (el_keep he ef1 hf)) (cwV 3 hts (tb_V tw_324 tw_326 tp_3 tw_4 tw_327) rfl rfl rfl (by decide +kernel) ⟨(Nat.le_of_ble_eq_true rfl), (Nat.le_of_ble_eq_true rfl)⟩) (pz_preV (zz_ok _ _ _) hK hP hD hS hA hz (ci := 0) rfl rfl hq h_2) rfl rfl hl.1 rfl (lv_room (Nat.le_of_ble_eq_true rfl)) d_AL_add0_20 ⟨(Nat.le_of_ble_eq_true rfl), (Nat.le_of_ble_eq_true rfl)⟩) hP hD hS hA (fun L5 f4 H locs hw hP hD hS => ?_)
  have ef4 := (Prod.mk.inj hw).2
  have eL5 := (Prod.mk.inj hw).1
  subst L5
  refine lv_iconst (v := 1) hx hb d_AL_add0_23 (by decide) ?_
  exact pz_iret hx hb hr rfl hlocks hK hP hD hS (Nat.le_of_ble_eq_true rfl) (Nat.le_of_ble_eq_true rfl) ⟨rfl, by rw [ef4, ef1, pz_up_comm _ _ _ (Ne.symm (pz_nea hfd hf)), bx_uu]⟩ d_AL_add0_24
set_option maxHeartbeats 4000000 in
set_option maxRecDepth 100000 in
theorem c_add0_first (l : Launch) (G : gG) (L : List Nat) (f : Nat → va_E) (sz : Nat) (q y : Nat) (mo : Int32) (hq : q ∈ L) (hf : f q = .inr (0, [.int mo, .ref G.2.2.1, .int 0])) (he : elOK L f y) : mI l y_AL_add0 w_AL_add0 ({ frames := 6, cells := 1, slots := 900, locals := 150 }) G L f sz [.ref q, .ref y] 1 900 (fun r u => r = 1 ∧ ∃ r9, r9 ∉ L ∧ u = (L ++ [r9], va_up (va_up f r9 (.inl (cO G, 10, .inr (.inr (.inr (.inr (va_up (fun _ => none) 0 (some y)))))))) q (.inr (0, [.int (mo + 1), .ref r9, .int (nI 1)])))) := by
  refine pz_met (cc := prog_27_method_25_code) (maxL := 2) (ret := (some .boolean)) (by decide) rfl (Nat.le_of_ble_eq_true rfl) ?_
  intro p e s m below meth c ls hx hb hr hml hts hown hlocks hin hsz hK hP hD hS hA hz hl
  have htb : ∀ w ∈ TB, w.before _ s = true := fun w h => hts w (List.mem_cons_of_mem _ h)
  have hl : lv_has ls 2 [(0, .ref q), (1, .ref y)] := hl
  refine lv_aload_n hx hb d_AL_add0_0 rfl (lv_at hl 0 rfl) ?_
  refine lv_dup hx hb d_AL_add0_1 rfl ?_
  refine pz_get (ci := 0) (C := "java/util/ArrayList") (T := T_AL) (N := 3) hx hb htb in_AL hown hK hP hq hf rfl 0 (by decide) (htb _ tw_52) (fun x h9 => u_same (htb _ tw_53) x h9) rfl d_AL_add0_2 ?_
  refine lv_iconst (v := 1) hx hb d_AL_add0_5 (by decide) ?_
  refine lv_iadd hx hb d_AL_add0_6 ?_
  refine pz_put (ci := 0) (v := .int (mo + 1)) (ty := .int) (C := "java/util/ArrayList") (T := T_AL) (N := 3) hx hb htb in_AL ty_AL to_AL nm_AL hown hK hP hD hS hq hf rfl 0 (by decide) (htb _ tw_52) (fun x h9 => u_same (htb _ tw_53) x h9) rfl rfl rfl rfl (Nat.le_of_ble_eq_true rfl) d_AL_add0_7 (fun f1 H locs ef1 hP hD hS => ?_)
  have ef1 : f1 = va_up f q (.inr (0, [.int (mo + 1), .ref G.2.2.1, .int 0])) := ef1
  refine lv_aload_n hx hb d_AL_add0_10 rfl (lv_at hl 0 rfl) ?_
  refine lv_aload_n hx hb d_AL_add0_11 rfl (lv_at hl 1 rfl) ?_
  refine lv_aload_n hx hb d_AL_add0_12 rfl (lv_at hl 0 rfl) ?_
  have h_2 : f1 q = .inr (0, [.int (mo + 1), .ref G.2.2.1, .int 0]) := by rw [ef1]; exact va_up_self _ _ _
  refine pz_get (ci := 0) (C := "java/util/ArrayList") (T := T_AL) (N := 3) hx hb htb in_AL hown hK hP hq h_2 rfl 1 (by decide) (htb _ tw_49) (fun _ h9 => h9) rfl d_AL_add0_13 ?_
  refine lv_aload_n hx hb d_AL_add0_16 rfl (lv_at hl 0 rfl) ?_
  refine pz_get (ci := 0) (C := "java/util/ArrayList") (T := T_AL) (N := 3) hx hb htb in_AL hown hK hP hq h_2 rfl 2 (by decide) (htb _ tw_50) (fun _ h9 => h9) rfl d_AL_add0_17 ?_
  refine pz_cv (va_runV (As := [.ref y, .ref G.2.2.1, .int 0]) (rest := []) ⟨hx, hb, hml, hown, hts⟩ (c_add1_first l G L f1 _ q y (mo + 1) hq h_2 (el_keep he ef1 hf)) (cwV 3 hts (tb_V tw_324 tw_326 tp_3 tw_4 tw_327) rfl rfl rfl (by decide +kernel) ⟨(Nat.le_of_ble_eq_true rfl), (Nat.le_of_ble_eq_true rfl)⟩) (pz_preV (zz_ok _ _ _) hK hP hD hS hA hz (ci := 0) rfl rfl hq h_2) rfl rfl hl.1 rfl (lv_room (Nat.le_of_ble_eq_true rfl)) d_AL_add0_20 ⟨(Nat.le_of_ble_eq_true rfl), (Nat.le_of_ble_eq_true rfl)⟩) hP hD hS hA (fun L4 f3 H locs hw hP hD hS => ?_)
  obtain ⟨r9, hn9, hw⟩ := hw
  have ef3 := (Prod.mk.inj hw).2
  have eL4 := (Prod.mk.inj hw).1
  subst L4
  refine lv_iconst (v := 1) hx hb d_AL_add0_23 (by decide) ?_
  exact pz_iret hx hb hr rfl hlocks hK hP hD hS (Nat.le_of_ble_eq_true rfl) (Nat.le_of_ble_eq_true rfl) ⟨rfl, r9, hn9, by rw [ef3, ef1, pz_up_comm _ _ _ (Ne.symm (pz_nef hn9 hq)), bx_uu]⟩ d_AL_add0_24
set_option maxHeartbeats 4000000 in
set_option maxRecDepth 100000 in
theorem c_add0_full (l : Launch) (G : gG) (L : List Nat) (f : Nat → va_E) (sz : Nat) (q d cap y : Nat) (mo : Int32) (a : Nat → Option Nat) (hq : q ∈ L) (hf : f q = .inr (0, [.int mo, .ref d, .int (nI cap)])) (hd : d ∈ L) (hfd : f d = .inl (cO G, cap, .inr (.inr (.inr (.inr a))))) (h1 : 10 ≤ cap) (h2 : cap ≤ 600) (hel : ∀ i, i < cap → ∀ y, a i = some y → elOK L f y) (he : elOK L f y) : mI l y_AL_add0 w_AL_add0 ({ frames := 6, cells := 1, slots := 900, locals := 150 }) G L f sz [.ref q, .ref y] 1 900 (fun r u => r = 1 ∧ ∃ r9, r9 ∉ L ∧ u = (L ++ [r9], va_up (va_up f r9 (.inl (cO G, (cap + cap / 2), .inr (.inr (.inr (.inr (va_up (va_cpy a (fun _ => none) 0 0 cap) cap (some y)))))))) q (.inr (0, [.int (mo + 1), .ref r9, .int (nI (cap + 1))])))) := by
  refine pz_met (cc := prog_27_method_25_code) (maxL := 2) (ret := (some .boolean)) (by decide) rfl (Nat.le_of_ble_eq_true rfl) ?_
  intro p e s m below meth c ls hx hb hr hml hts hown hlocks hin hsz hK hP hD hS hA hz hl
  have htb : ∀ w ∈ TB, w.before _ s = true := fun w h => hts w (List.mem_cons_of_mem _ h)
  have hl : lv_has ls 2 [(0, .ref q), (1, .ref y)] := hl
  refine lv_aload_n hx hb d_AL_add0_0 rfl (lv_at hl 0 rfl) ?_
  refine lv_dup hx hb d_AL_add0_1 rfl ?_
  refine pz_get (ci := 0) (C := "java/util/ArrayList") (T := T_AL) (N := 3) hx hb htb in_AL hown hK hP hq hf rfl 0 (by decide) (htb _ tw_52) (fun x h9 => u_same (htb _ tw_53) x h9) rfl d_AL_add0_2 ?_
  refine lv_iconst (v := 1) hx hb d_AL_add0_5 (by decide) ?_
  refine lv_iadd hx hb d_AL_add0_6 ?_
  refine pz_put (ci := 0) (v := .int (mo + 1)) (ty := .int) (C := "java/util/ArrayList") (T := T_AL) (N := 3) hx hb htb in_AL ty_AL to_AL nm_AL hown hK hP hD hS hq hf rfl 0 (by decide) (htb _ tw_52) (fun x h9 => u_same (htb _ tw_53) x h9) rfl rfl rfl rfl (Nat.le_of_ble_eq_true rfl) d_AL_add0_7 (fun f1 H locs ef1 hP hD hS => ?_)
  have ef1 : f1 = va_up f q (.inr (0, [.int (mo + 1), .ref d, .int (nI cap)])) := ef1
  refine lv_aload_n hx hb d_AL_add0_10 rfl (lv_at hl 0 rfl) ?_
  refine lv_aload_n hx hb d_AL_add0_11 rfl (lv_at hl 1 rfl) ?_
  refine lv_aload_n hx hb d_AL_add0_12 rfl (lv_at hl 0 rfl) ?_
  have h_2 : f1 q = .inr (0, [.int (mo + 1), .ref d, .int (nI cap)]) := by rw [ef1]; exact va_up_self _ _ _
  refine pz_get (ci := 0) (C := "java/util/ArrayList") (T := T_AL) (N := 3) hx hb htb in_AL hown hK hP hq h_2 rfl 1 (by decide) (htb _ tw_49) (fun _ h9 => h9) rfl d_AL_add0_13 ?_
  refine lv_aload_n hx hb d_AL_add0_16 rfl (lv_at hl 0 rfl) ?_
  refine pz_get (ci := 0) (C := "java/util/ArrayList") (T := T_AL) (N := 3) hx hb htb in_AL hown hK hP hq h_2 rfl 2 (by decide) (htb _ tw_50) (fun _ h9 => h9) rfl d_AL_add0_17 ?_
  have h_3 : f1 d = .inl (cO G, cap, .inr (.inr (.inr (.inr a)))) := by rw [ef1, va_up_ne _ _ (pz_nea hfd hf)]; exact hfd
  refine pz_cv (va_runV (As := [.ref y, .ref d, .int (nI cap)]) (rest := []) ⟨hx, hb, hml, hown, hts⟩ (c_add1_full l G L f1 _ q d cap y (mo + 1) a hq h_2 hd h_3 h1 h2 (fun i hi z hz => el_keep (hel i hi z hz) ef1 hf) (el_keep he ef1 hf)) (cwV 3 hts (tb_V tw_324 tw_326 tp_3 tw_4 tw_327) rfl rfl rfl (by decide +kernel) ⟨(Nat.le_of_ble_eq_true rfl), (Nat.le_of_ble_eq_true rfl)⟩) (pz_preV (zz_ok _ _ _) hK hP hD hS hA hz (ci := 0) rfl rfl hq h_2) rfl rfl hl.1 rfl (lv_room (Nat.le_of_ble_eq_true rfl)) d_AL_add0_20 ⟨(Nat.le_of_ble_eq_true rfl), (by show 0 + (cap + cap / 2) ≤ 900; omega)⟩) hP hD hS hA (fun L5 f4 H locs hw hP hD hS => ?_)
  obtain ⟨r9, hn9, hw⟩ := hw
  have ef4 := (Prod.mk.inj hw).2
  have eL5 := (Prod.mk.inj hw).1
  subst L5
  refine lv_iconst (v := 1) hx hb d_AL_add0_23 (by decide) ?_
  exact pz_iret hx hb hr rfl hlocks hK hP hD hS (Nat.le_of_ble_eq_true rfl) (by show 0 + (cap + cap / 2) ≤ 900; omega) ⟨rfl, r9, hn9, by rw [ef4, ef1, pz_up_comm _ _ _ (Ne.symm (pz_nef hn9 hq)), bx_uu]⟩ d_AL_add0_24
end
section
/-! LISTS IN ONE FORM; the representation of a PageMaker -/
/-- the list at al holds the addresses xs; its row is at d (the empty row of the JDK while it is empty) -/
def LR (G : gG) (L : List Nat) (f : Nat → va_E) (al d : Nat) (xs : List Nat) : Prop := ∃ mo : Int32, al ∈ L ∧ f al = .inr (0, [.int mo, .ref d, .int (nI xs.length)]) ∧ ((xs = [] ∧ d = G.2.2.1) ∨ (xs ≠ [] ∧ d ∈ L ∧ ∃ (cap : Nat) (a : Nat → Option Nat), f d = .inl (cO G, cap, .inr (.inr (.inr (.inr a)))) ∧ xs.length ≤ cap ∧ 10 ≤ cap ∧ cap ≤ 1000 ∧ ∀ i, i < xs.length → a i = xs[i]?))
theorem mI_mono {l : Launch} {y : MethodName} {ws : List Cond} {rm : Room} {G : gG} {L : List Nat} {f : Nat → va_E} {sz : Nat} {av : List Value} {mc ms : Nat} {p1 p2 : Int32 → pz_U → Prop} (h : mI l y ws rm G L f sz av mc ms p1) (hp : ∀ r u, p1 r u → p2 r u) : mI l y ws rm G L f sz av mc ms p2 := by
  intro p e ha hc hk s m args below hf happ hpre hK
  obtain ⟨n, o, h1, h2, h3, ⟨⟨⟨r, u, e1, e2, e3⟩, e4⟩, h5⟩⟩ := h p e ha hc hk s m args below hf happ hpre hK
  exact ⟨n, o, h1, h2, h3, ⟨⟨⟨r, u, e1, hp r u e2, e3⟩, e4⟩, h5⟩⟩
/-- a list with one element: what add() makes -/
theorem lr_snoc {xs : List Nat} {a : Nat → Option Nat} {y : Nat} (h : ∀ i, i < xs.length → a i = xs[i]?) : ∀ i, i < (xs ++ [y]).length → va_up a xs.length (some y) i = (xs ++ [y])[i]? := by
  intro i hi
  rw [List.length_append, List.length_singleton] at hi
  by_cases e : i = xs.length
  · subst e
    rw [va_up_self, List.getElem?_append_right (Nat.le_refl _), Nat.sub_self]
    rfl
  · rw [va_up_ne _ _ e, List.getElem?_append_left (by omega)]
    exact h i (by omega)
theorem lr_cpy {xs : List Nat} {a : Nat → Option Nat} {cap : Nat} (e : xs.length = cap) (h : ∀ i, i < xs.length → a i = xs[i]?) : ∀ i, i < xs.length → va_cpy a (fun _ => none) 0 0 cap i = xs[i]? := by
  intro i hi
  rw [pk_cpy_in (Nat.zero_le _) (by omega), Nat.zero_add, Nat.sub_zero]
  exact h i hi
theorem al_add (l : Launch) (G : gG) (L : List Nat) (f : Nat → va_E) (sz : Nat) (al d : Nat) (xs : List Nat) (y : Nat) (h : LR G L f al d xs) (hn : xs.length < 512) (hel : ∀ i x : Nat, xs[i]? = some x → elOK L f x) (he : elOK L f y) :
    mI l y_AL_add0 w_AL_add0 { frames := 6, cells := 1, slots := 900, locals := 150 } G L f sz [.ref al, .ref y] 1 900 (fun r u => r = 1 ∧ ∃ d', LR G u.1 u.2 al d' (xs ++ [y]) ∧ ((xs ≠ [] ∧ d' = d ∧ d ∈ L ∧ u.1 = L ∧ ∃ (cap : Nat) (a : Nat → Option Nat), f d = .inl (cO G, cap, .inr (.inr (.inr (.inr a))))) ∨ (d' ∉ L ∧ u.1 = L ++ [d'])) ∧ ∀ z, z ≠ al → z ≠ d' → u.2 z = f z) := by
  obtain ⟨mo, h1, h2, h3⟩ := h
  rcases h3 with ⟨rfl, rfl⟩ | ⟨hne, h3, cap, a, h4, h5, h6, h7, h8⟩
  · refine mI_mono (c_add0_first l G L f sz al y mo h1 h2 he) (fun r u hu => ?_)
    obtain ⟨hr, r9, hn9, rfl⟩ := hu
    refine ⟨hr, r9, ⟨mo + 1, List.mem_append_left _ h1, va_up_self _ _ _, Or.inr ⟨List.cons_ne_nil _ _, l_in_new _ _, 10, _, (va_up_ne _ _ (pz_nef hn9 h1)).trans (va_up_self _ _ _), Nat.le_of_ble_eq_true rfl, by decide, by decide, ?_⟩⟩, Or.inr ⟨hn9, rfl⟩, fun z hz1 hz2 => (va_up_ne _ _ hz1).trans (va_up_ne _ _ hz2)⟩
    exact lr_snoc (xs := []) (fun i hi => absurd hi (Nat.not_lt_zero _))
  · by_cases hc : xs.length < cap
    · refine mI_mono (c_add0_room l G L f sz al d cap xs.length y mo a h1 h2 h3 h4 hc h7 he) (fun r u hu => ?_)
      obtain ⟨hr, rfl⟩ := hu
      refine ⟨hr, d, ⟨mo + 1, h1, ?_, Or.inr ⟨List.append_ne_nil_of_right_ne_nil _ (List.cons_ne_nil _ _), h3, cap, _, (va_up_ne _ _ (pz_nea h4 h2)).trans (va_up_self _ _ _), by rw [List.length_append]; exact hc, h6, h7, lr_snoc h8⟩⟩, Or.inl ⟨hne, rfl, h3, rfl, _, _, h4⟩, fun z hz1 hz2 => (va_up_ne _ _ hz1).trans (va_up_ne _ _ hz2)⟩
      rw [List.length_append]
      exact va_up_self _ _ _
    · have hcap : xs.length = cap := by omega
      rw [hcap] at h2
      refine mI_mono (c_add0_full l G L f sz al d cap y mo a h1 h2 h3 h4 h6 (by omega) (fun i hi z hz => hel i z (by rw [← h8 i (by omega)]; exact hz)) he) (fun r u hu => ?_)
      obtain ⟨hr, r9, hn9, rfl⟩ := hu
      refine ⟨hr, r9, ⟨mo + 1, List.mem_append_left _ h1, ?_, Or.inr ⟨List.append_ne_nil_of_right_ne_nil _ (List.cons_ne_nil _ _), l_in_new _ _, cap + cap / 2, _, (va_up_ne _ _ (pz_nef hn9 h1)).trans (va_up_self _ _ _), by rw [List.length_append, List.length_singleton]; omega, by omega, by omega, ?_⟩⟩, Or.inr ⟨hn9, rfl⟩, fun z hz1 hz2 => (va_up_ne _ _ hz1).trans (va_up_ne _ _ hz2)⟩
      · rw [List.length_append, hcap]
        exact va_up_self _ _ _
      · have k := lr_snoc (y := y) (lr_cpy hcap h8)
        rw [hcap] at k
        exact k
/-- what get(i) needs -/
theorem lr_get {G : gG} {L : List Nat} {f : Nat → va_E} {al d : Nat} {xs : List Nat} (h : LR G L f al d xs) {i x : Nat} (hx : xs[i]? = some x) : ∃ (mo : Int32) (cap : Nat) (a : Nat → Option Nat), al ∈ L ∧ f al = .inr (0, [.int mo, .ref d, .int (nI xs.length)]) ∧ d ∈ L ∧ f d = .inl (cO G, cap, .inr (.inr (.inr (.inr a)))) ∧ i < xs.length ∧ xs.length ≤ cap ∧ cap ≤ 1000 ∧ a i = some x := by
  obtain ⟨mo, h1, h2, h3⟩ := h
  have hi : i < xs.length := (List.getElem?_eq_some_iff.mp hx).1
  rcases h3 with ⟨rfl, -⟩ | ⟨hne, h3, cap, a, h4, h5, h6, h7, h8⟩
  · exact absurd hi (Nat.not_lt_zero _)
  · exact ⟨mo, cap, a, h1, h2, h3, h4, hi, h5, h7, (h8 i hi).trans hx⟩
theorem al_get (l : Launch) (G : gG) (L : List Nat) (f : Nat → va_E) (sz : Nat) (al d : Nat) (xs : List Nat) (i x : Nat) (h : LR G L f al d xs) (hx : xs[i]? = some x) : sQ l y_AL_get w_AL_get { frames := 2, cells := 0, slots := 0, locals := 43 } G L f sz [.ref al, .int (nI i)] (fun r => r = some x) := by
  obtain ⟨mo, cap, a, h1, h2, h3, h4, h5, h6, h7, h8⟩ := lr_get h hx
  have k := c_AL_get l G L f sz al d cap mo (nI xs.length) (nI i) a h1 h2 h3 h4 (vp_in_nI (by omega) (by omega)) (nI_pos (by omega)) (nI_lt h5 (by omega))
  rw [nI_clamp (by omega), h8] at k
  exact k
theorem al_size (l : Launch) (G : gG) (L : List Nat) (f : Nat → va_E) (sz : Nat) (al d : Nat) (xs : List Nat) (h : LR G L f al d xs) : sI l y_AL_size w_AL_size { frames := 0, cells := 0, slots := 0, locals := 0 } G L f sz [.ref al] (fun r => r = nI xs.length) := by
  obtain ⟨mo, h1, h2, -⟩ := h
  exact c_AL_size l G L f sz al d mo (nI xs.length) h1 h2
/-- a list keeps what it holds when other cells change, or come -/
theorem lr_keep {G : gG} {L L1 : List Nat} {f f1 : Nat → va_E} {al d : Nat} {xs : List Nat} (h : LR G L f al d xs) (hL : ∀ z, z ∈ L → z ∈ L1) (ha : f1 al = f al) (hd : d ∈ L → f1 d = f d) : LR G L1 f1 al d xs := by
  obtain ⟨mo, h1, h2, h3⟩ := h
  refine ⟨mo, hL _ h1, ha.trans h2, ?_⟩
  rcases h3 with h3 | ⟨hne, h3, cap, a, h4, h5⟩
  · exact Or.inl h3
  · exact Or.inr ⟨hne, hL _ h3, cap, a, (hd h3).trans h4, h5⟩
/-! THE CLASS'S STATE: items; the frame now; ended pages, each with its frame; the open page: its frame, what it holds, its totals -/
abbrev CS : Type := List It × Fr × List (Fr × Pg) × Fr × Op × Tt
/-- the items' objects -/
def XR (L : List Nat) (f : Nat → va_E) (xs : List Nat) (its : List It) : Prop := xs.length = its.length ∧ ∀ (i x : Nat) (it : It), xs[i]? = some x → its[i]? = some it → x ∈ L ∧ f x = itE it ∧ itOK it
/-- the ended pages' objects -/
def YR (L : List Nat) (f : Nat → va_E) (ys : List Nat) (pgs : List (Fr × Pg)) : Prop := ys.length = pgs.length ∧ ∀ (i y : Nat) (pg : Fr × Pg), ys[i]? = some y → pgs[i]? = some pg → y ∈ L ∧ ∃ z, z ∈ L ∧ f z = frE pg.1 ∧ f y = pgE z pg.2
/-- the places: the lists and their rows, the frame, the open page, its totals, their row, its frame -/
abbrev Pl : Type := Nat × Nat × Nat × Nat × Nat × Nat × Nat × Nat × Nat
def RX (G : gG) (L : List Nat) (f : Nat → va_E) (pm al ad el ed fr op to sa fo : Nat) (xs ys : List Nat) (S : CS) : Prop :=
  pm ∈ L ∧ f pm = .inr (4, [.ref al, .ref el, .ref fr, .ref op]) ∧ LR G L f al ad xs ∧ LR G L f el ed ys ∧ al ≠ el ∧ (xs ≠ [] → ys ≠ [] → ad ≠ ed) ∧ XR L f xs S.1 ∧ YR L f ys S.2.2.1 ∧ fr ∈ L ∧ f fr = frE S.2.1 ∧ op ∈ L ∧ f op = opE to fo S.2.2.2.2.1 ∧ to ∈ L ∧ f to = toE sa S.2.2.2.2.2 ∧ sa ∈ L ∧ f sa = saE G S.2.2.2.2.2 ∧ fo ∈ L ∧ f fo = frE S.2.2.2.1
end
section
/-! PageMaker: counting, totalsOf -/
theorem k_by {P : Prop} {r : Int32} (h : k_b P r) (hp : P) : r = 1 := h.elim (fun q => q.1) (fun q => absurd hp q.2)
theorem k_bn {P : Prop} {r : Int32} (h : k_b P r) (hp : ¬ P) : r = 0 := h.elim (fun q => absurd q.2 hp) (fun q => q.1)
/-- m items from k on are added -/
def t_run (its : List It) (g : Int32) (k : Nat) : Nat → Tt → Tt
  | 0, T => T
  | m + 1, T => t_run its g (k + 1) m (match its[k]? with
    | some it => t_add it g T
    | none => T)
theorem t_run_succ {its : List It} {g : Int32} {k m : Nat} {T : Tt} {it : It} (h : its[k]? = some it) : t_run its g k (m + 1) T = t_run its g (k + 1) m (t_add it g T) := by
  show t_run its g (k + 1) m _ = _
  rw [h]
/-- the top glue of a page whose first box is at a -/
def t_top (its : List It) (F : Fr) (a : Nat) : Tt := match its[a]? with
  | some (.inl (h, _)) => t_sp (k_top F.2.1 h) t_0
  | _ => t_0
/-- the list of a page from its first box at a up to b -/
def t_list (its : List It) (F : Fr) (a b : Nat) : Tt := t_run its F.2.2 a (b - a) (t_top its F a)
set_option maxHeartbeats 4000000 in
set_option maxRecDepth 100000 in
/-- items() -/
theorem c_PM_items (l : Launch) (G : gG) (L : List Nat) (f : Nat → va_E) (sz : Nat) (pm al el fr op ad : Nat) (xs : List Nat) (hp : pm ∈ L) (hfp : f pm = .inr (4, [.ref al, .ref el, .ref fr, .ref op])) (h_al : LR G L f al ad xs) : sI l y_PM_items w_PM_items ({ frames := 1, cells := 0, slots := 0, locals := 20 }) G L f sz [.ref pm] (fun r => r = nI xs.length) := by
  refine pz_met (cc := prog_1_method_7_code) (maxL := 1) (ret := (some .int)) (by decide) rfl (Nat.le_of_ble_eq_true rfl) ?_
  intro p e s m below meth c ls hx hb hr hml hts hown hlocks hin hsz hK hP hD hS hA hz hl
  have htb : ∀ w ∈ TB, w.before _ s = true := fun w h => hts w (List.mem_cons_of_mem _ h)
  have hl : lv_has ls 1 [(0, .ref pm)] := hl
  obtain ⟨mo_al, hm_al, hc_al, -⟩ := id h_al
  refine lv_aload_n hx hb d_PM_items_0 rfl (lv_at hl 0 rfl) ?_
  refine pz_get (ci := 4) (C := "PageMaker") (T := T_PM) (N := 4) hx hb htb in_PM hown hK hP hp hfp rfl 0 (by decide) (htb _ tw_160) (fun _ h9 => h9) rfl d_PM_items_1 ?_
  refine vp_callSi (va_Run.run (va_runV (As := []) (rest := []) ⟨hx, hb, hml, hown, hts⟩ (al_size l G L f _ al ad xs h_al) (cwV 0 hts (tb_V tw_177 tw_178 tw_179 tw_4 tw_180) rfl rfl rfl (by decide +kernel) ⟨(Nat.le_of_ble_eq_true rfl), (Nat.le_of_ble_eq_true rfl)⟩) (pz_preV (zz_ok _ _ _) hK hP hD hS hA hz (ci := 0) rfl rfl hm_al hc_al) rfl rfl hl.1 rfl (lv_room (Nat.le_of_ble_eq_true rfl)) d_PM_items_4 ⟨(Nat.le_of_ble_eq_true rfl), (Nat.le_of_ble_eq_true rfl)⟩)) (fun r1 hw => ?_)
  have hw : r1 = nI xs.length := hw
  subst r1
  exact pz_iretS hx hb hr rfl hlocks rfl d_PM_items_7
set_option maxHeartbeats 4000000 in
set_option maxRecDepth 100000 in
/-- pages() -/
theorem c_PM_pages (l : Launch) (G : gG) (L : List Nat) (f : Nat → va_E) (sz : Nat) (pm al el fr op ed : Nat) (ys : List Nat) (hp : pm ∈ L) (hfp : f pm = .inr (4, [.ref al, .ref el, .ref fr, .ref op])) (h_el : LR G L f el ed ys) : sI l y_PM_pages w_PM_pages ({ frames := 1, cells := 0, slots := 0, locals := 20 }) G L f sz [.ref pm] (fun r => r = nI ys.length) := by
  refine pz_met (cc := prog_1_method_8_code) (maxL := 1) (ret := (some .int)) (by decide) rfl (Nat.le_of_ble_eq_true rfl) ?_
  intro p e s m below meth c ls hx hb hr hml hts hown hlocks hin hsz hK hP hD hS hA hz hl
  have htb : ∀ w ∈ TB, w.before _ s = true := fun w h => hts w (List.mem_cons_of_mem _ h)
  have hl : lv_has ls 1 [(0, .ref pm)] := hl
  obtain ⟨mo_el, hm_el, hc_el, -⟩ := id h_el
  refine lv_aload_n hx hb d_PM_pages_0 rfl (lv_at hl 0 rfl) ?_
  refine pz_get (ci := 4) (C := "PageMaker") (T := T_PM) (N := 4) hx hb htb in_PM hown hK hP hp hfp rfl 1 (by decide) (htb _ tw_161) (fun _ h9 => h9) rfl d_PM_pages_1 ?_
  refine vp_callSi (va_Run.run (va_runV (As := []) (rest := []) ⟨hx, hb, hml, hown, hts⟩ (al_size l G L f _ el ed ys h_el) (cwV 0 hts (tb_V tw_177 tw_178 tw_179 tw_4 tw_180) rfl rfl rfl (by decide +kernel) ⟨(Nat.le_of_ble_eq_true rfl), (Nat.le_of_ble_eq_true rfl)⟩) (pz_preV (zz_ok _ _ _) hK hP hD hS hA hz (ci := 0) rfl rfl hm_el hc_el) rfl rfl hl.1 rfl (lv_room (Nat.le_of_ble_eq_true rfl)) d_PM_pages_4 ⟨(Nat.le_of_ble_eq_true rfl), (Nat.le_of_ble_eq_true rfl)⟩)) (fun r1 hw => ?_)
  have hw : r1 = nI ys.length := hw
  subst r1
  exact pz_iretS hx hb hr rfl hlocks rfl d_PM_pages_7
set_option maxHeartbeats 4000000 in
set_option maxRecDepth 100000 in
/-- isItem(i) -/
theorem c_PM_isItem (l : Launch) (G : gG) (L : List Nat) (f : Nat → va_E) (sz : Nat) (pm al el fr op ad : Nat) (xs : List Nat) (i : Int32) (hp : pm ∈ L) (hfp : f pm = .inr (4, [.ref al, .ref el, .ref fr, .ref op])) (h_al : LR G L f al ad xs) : sI l y_PM_isItem w_PM_isItem ({ frames := 1, cells := 0, slots := 0, locals := 20 }) G L f sz [.ref pm, .int i] (k_b (0 ≤ i ∧ i < nI xs.length)) := by
  refine pz_met (cc := prog_1_method_17_code) (maxL := 2) (ret := (some .boolean)) (by decide) rfl (Nat.le_of_ble_eq_true rfl) ?_
  intro p e s m below meth c ls hx hb hr hml hts hown hlocks hin hsz hK hP hD hS hA hz hl
  have htb : ∀ w ∈ TB, w.before _ s = true := fun w h => hts w (List.mem_cons_of_mem _ h)
  have hl : lv_has ls 2 [(0, .ref pm), (1, .int i)] := hl
  obtain ⟨mo_al, hm_al, hc_al, -⟩ := id h_al
  refine lv_iload_n hx hb d_PM_isItem_0 rfl (lv_at hl 1 rfl) ?_
  refine lv_if_lt (tgt := 19) hx hb d_PM_isItem_1 (by decide) (fun c_1 => ?_) (fun c_1 => ?_)
  · refine lv_iconst (v := 0) hx hb d_PM_isItem_19 (by decide) ?_
    exact pz_iretS hx hb hr rfl hlocks (k_b0 (fun h => absurd h.1 (i32_nle c_1))) d_PM_isItem_20
  · refine lv_iload_n hx hb d_PM_isItem_4 rfl (lv_at hl 1 rfl) ?_
    refine lv_aload_n hx hb d_PM_isItem_5 rfl (lv_at hl 0 rfl) ?_
    refine pz_get (ci := 4) (C := "PageMaker") (T := T_PM) (N := 4) hx hb htb in_PM hown hK hP hp hfp rfl 0 (by decide) (htb _ tw_160) (fun _ h9 => h9) rfl d_PM_isItem_6 ?_
    refine vp_callSi (va_Run.run (va_runV (As := []) (rest := [.int i]) ⟨hx, hb, hml, hown, hts⟩ (al_size l G L f _ al ad xs h_al) (cwV 0 hts (tb_V tw_177 tw_178 tw_179 tw_4 tw_180) rfl rfl rfl (by decide +kernel) ⟨(Nat.le_of_ble_eq_true rfl), (Nat.le_of_ble_eq_true rfl)⟩) (pz_preV (zz_ok _ _ _) hK hP hD hS hA hz (ci := 0) rfl rfl hm_al hc_al) rfl rfl hl.1 rfl (lv_room (Nat.le_of_ble_eq_true rfl)) d_PM_isItem_9 ⟨(Nat.le_of_ble_eq_true rfl), (Nat.le_of_ble_eq_true rfl)⟩)) (fun r2 hw => ?_)
    have hw : r2 = nI xs.length := hw
    subst r2
    refine lv_icmp_ge (tgt := 19) hx hb d_PM_isItem_12 (by decide) (fun c_3 => ?_) (fun c_3 => ?_)
    · refine lv_iconst (v := 0) hx hb d_PM_isItem_19 (by decide) ?_
      exact pz_iretS hx hb hr rfl hlocks (k_b0 (fun h => absurd h.2 (i32_nlt c_3))) d_PM_isItem_20
    · refine lv_iconst (v := 1) hx hb d_PM_isItem_15 (by decide) ?_
      refine lv_goto (tgt := 20) hx hb d_PM_isItem_16 (by decide) ?_
      exact pz_iretS hx hb hr rfl hlocks (k_b1 ⟨i32_le c_1, i32_lt c_3⟩) d_PM_isItem_20
set_option maxHeartbeats 4000000 in
set_option maxRecDepth 100000 in
/-- totalsOf: its loop, at the place k with the totals T -/
theorem lp_totalsOf (l : Launch) (G : gG) (L : List Nat) (f : Nat → va_E) (sz : Nat) (pm al ad el fr op fr2 to2 sa2 x0 a b : Nat) (xs : List Nat) (its : List It) (F : Fr) {p : Program} {e : Env} {s : State} {m : MethodId} {below : List Frame} {meth : Method} {c : Code} (hx : p.tables.exec = Jvm.exec) (hb : c.code = prog_1_method_23_code) (hr : meth.sig.returnType = some (.object "PageMaker$Totals")) (hml : c.maxLocals = 7) (hts : ∀ w ∈ w_PM_totalsOf, w.before ([.ref pm, .ref fr2, .int (nI a), .int (nI b)] : List Value).toArray s = true) (hown : s.vm.findClass "PageMaker" = some m.cls) (hlocks : meth.locks = false) (hK : va_K (gD G) cls9 (gT G) s) (hA : ∀ q, s.heap.size ≤ q → mA L f sz q) (hz : gZ G (mA L f sz) s s.heap)
    (hp : pm ∈ L) (hfp : f pm = .inr (4, [.ref al, .ref el, .ref fr, .ref op])) (h_al : LR G L f al ad xs) (hX : XR L f xs its) (hr2 : fr2 ∈ L) (hfr2 : f fr2 = frE F) (hn1 : to2 ∉ L) (hn2 : sa2 ∉ L) (hn3 : sa2 ≠ to2) (hbn : b ≤ its.length) (hn5 : its.length ≤ 512) :
    ∀ (mm k : Nat) (T : Tt) (f1 : Nat → va_E) (H : Heap) (locs : List Loc) (ls : Array Slot), k + mm = b → t_run its F.2.2 k mm T = t_list its F a b → f1 to2 = toE sa2 T → f1 sa2 = saE G T → (∀ z, z ≠ to2 → z ≠ sa2 → f1 z = f z) → va_P (gD G) cls9 ([] ++ va_pl (L ++ [to2] ++ [sa2]) f1) H → va_D (mA L f sz) ([] ++ va_pl (L ++ [to2] ++ [sa2]) f1) → va_S (mA L f sz) s.heap H locs → lv_has ls 7 [(0, .ref pm), (1, .ref fr2), (2, .int (nI a)), (3, .int (nI b)), (4, .ref to2), (5, .int (nI k)), (6, .ref x0)] →
      W p l e ({ frames := 3, cells := 2, slots := 8, locals := 64 } : Room) s m ([.ref pm, .ref fr2, .int (nI a), .int (nI b)] : List Value).toArray below meth c H locs 2 8 (MQ below (va_Qr (fun u => u.1 ∉ L ∧ ∃ sa2, sa2 ∉ L ∧ sa2 ≠ u.1 ∧ u.2.1 = L ++ [u.1] ++ [sa2] ∧ u.2.2 u.1 = toE sa2 (t_list its F a b) ∧ u.2.2 sa2 = saE G (t_list its F a b) ∧ ∀ z, z ≠ u.1 → z ≠ sa2 → u.2.2 z = f z) (pz_BR (gD G) cls9 (gT G) (mA L f sz)) (mA L f sz)) ([.ref pm, .ref fr2, .int (nI a), .int (nI b)] : List Value).toArray s 2 8 (mA L f sz)) (F0 m 53 ls []) := by
  have htb : ∀ w ∈ TB, w.before _ s = true := fun w h => hts w (List.mem_cons_of_mem _ h)
  intro mm
  induction mm with
  | zero =>
    intro k T f1 H locs ls hk hT hto hsa hkeep hP hD hS hl
    refine lv_iload hx hb d_PM_totalsOf_53 (lv_at hl 5 rfl) ?_
    refine lv_iload_n hx hb d_PM_totalsOf_55 rfl (lv_at hl 3 rfl) ?_
    refine lv_icmp_ge (tgt := 92) hx hb d_PM_totalsOf_56 (by decide) (fun c_1 => ?_) (fun c_1 => ?_)
    · refine lv_aload hx hb d_PM_totalsOf_92 (lv_at hl 4 rfl) ?_
      exact pz_aret hx hb hr (Or.inl ⟨_, rfl⟩) hlocks hK hP hD hS (Nat.le_refl _) (Nat.le_refl _) ⟨hn1, sa2, hn2, hn3, rfl, by rw [← hT]; exact hto, by rw [← hT]; exact hsa, hkeep⟩ d_PM_totalsOf_94
    · exact absurd (nI_le (by omega) (by omega)) c_1
  | succ mm ih =>
    intro k T f1 H locs ls hk hT hto hsa hkeep hP hD hS hl
    have hk1 : k < its.length := by omega
    have hxl : xs.length = its.length := hX.1
    obtain ⟨x, hx9⟩ : ∃ x, xs[k]? = some x := ⟨_, List.getElem?_eq_getElem (by omega)⟩
    obtain ⟨it, hi9⟩ : ∃ it, its[k]? = some it := ⟨_, List.getElem?_eq_getElem hk1⟩
    obtain ⟨hxL, hfx, hok⟩ := hX.2 k x it hx9 hi9
    have hold : ∀ z, z ∈ L → f1 z = f z := fun z hz => hkeep z (Ne.symm (pz_nef hn1 hz)) (Ne.symm (pz_nef hn2 hz))
    have hsub : ∀ z, z ∈ L → z ∈ L ++ [to2] ++ [sa2] := fun z hz => List.mem_append_left _ (List.mem_append_left _ hz)
    have hal1 : LR G (L ++ [to2] ++ [sa2]) f1 al ad xs := lr_keep h_al hsub (hold _ h_al.choose_spec.1) (fun h => hold _ h)
    have hpm1 : f1 pm = .inr (4, [.ref al, .ref el, .ref fr, .ref op]) := (hold _ hp).trans hfp
    have hfr1 : f1 fr2 = frE F := (hold _ hr2).trans hfr2
    have hfx1 : f1 x = itE it := (hold _ hxL).trans hfx
    have hT1 : t_run its F.2.2 (k + 1) mm (t_add it F.2.2 T) = t_list its F a b := by rw [← hT]; exact (t_run_succ hi9).symm
    obtain ⟨mo_al, hm_al, hc_al, -⟩ := id hal1
    refine lv_iload hx hb d_PM_totalsOf_53 (lv_at hl 5 rfl) ?_
    refine lv_iload_n hx hb d_PM_totalsOf_55 rfl (lv_at hl 3 rfl) ?_
    refine lv_icmp_ge (tgt := 92) hx hb d_PM_totalsOf_56 (by decide) (fun c_2 => ?_) (fun c_2 => ?_)
    · exact absurd c_2 (nI_ge (by omega) (by omega))
    · refine lv_aload_n hx hb d_PM_totalsOf_59 rfl (lv_at hl 0 rfl) ?_
      refine lv_iload hx hb d_PM_totalsOf_60 (lv_at hl 5 rfl) ?_
      refine vp_callSi (va_Run.run (va_runV (As := [.int (nI k)]) (rest := []) ⟨hx, hb, hml, hown, hts⟩ (c_PM_isItem l G (L ++ [to2] ++ [sa2]) f1 _ pm al el fr op ad xs (nI k) (hsub _ hp) hpm1 hal1) (cwV 1 hts (tb_V tw_386 tw_388 tp_7 tw_1 tw_389) rfl rfl rfl (by decide +kernel) ⟨(Nat.le_of_ble_eq_true rfl), (Nat.le_of_ble_eq_true rfl)⟩) (pz_preV (zz_ok _ _ _) hK hP hD hS hA hz (ci := 4) rfl rfl (hsub _ hp) hpm1) rfl rfl hl.1 rfl (lv_room (Nat.le_of_ble_eq_true rfl)) d_PM_totalsOf_62 ⟨(Nat.le_of_ble_eq_true rfl), (Nat.le_of_ble_eq_true rfl)⟩)) (fun r3 hw => ?_)
      have hw : r3 = 1 := k_by (show k_b (0 ≤ nI k ∧ nI k < nI xs.length) r3 from hw) ⟨nI_pos' (by omega), nI_lt (by omega) (by omega)⟩
      subst hw
      refine lv_if_eq (tgt := 92) hx hb d_PM_totalsOf_65 (by decide) (fun c0 => absurd c0 (by decide)) (fun _ => ?_)
      refine lv_aload_n hx hb d_PM_totalsOf_68 rfl (lv_at hl 0 rfl) ?_
      refine pz_get (ci := 4) (C := "PageMaker") (T := T_PM) (N := 4) hx hb htb in_PM hown hK hP (hsub _ hp) hpm1 rfl 0 (by decide) (htb _ tw_160) (fun _ h9 => h9) rfl d_PM_totalsOf_69 ?_
      refine lv_iload hx hb d_PM_totalsOf_72 (lv_at hl 5 rfl) ?_
      refine va_csq (va_Run.run (va_runV (As := [.int (nI k)]) (rest := []) ⟨hx, hb, hml, hown, hts⟩ (al_get l G (L ++ [to2] ++ [sa2]) f1 _ al ad xs k x hal1 hx9) (cwV 1 hts (tb_V tw_390 tw_391 tw_392 tw_4 tw_393) rfl rfl rfl (by decide +kernel) ⟨(Nat.le_of_ble_eq_true rfl), (Nat.le_of_ble_eq_true rfl)⟩) (pz_preV (zz_ok _ _ _) hK hP hD hS hA hz (ci := 0) rfl rfl hm_al hc_al) rfl rfl hl.1 rfl (lv_room (Nat.le_of_ble_eq_true rfl)) d_PM_totalsOf_74 ⟨(Nat.le_of_ble_eq_true rfl), (Nat.le_of_ble_eq_true rfl)⟩)) (fun r4 hw => ?_)
      have hw : r4 = some x := hw
      subst hw
      refine W.eq (g2 := F0 m 77 ls [.ref x]) rfl ?_
      rcases it with ⟨ia, ib⟩ | ⟨ia, ib, io, id9⟩ | ia | ia
      · refine va_castY (C := "PageMaker$Box") hx hb hown (htb _ tw_404) (hz.1 _ tn_884) (pz_recv hK hP (ci := 5) rfl (hsub _ hxL) hfx1) d_PM_totalsOf_77 ?_
        refine lv_aload hx hb d_PM_totalsOf_80 (lv_at hl 4 rfl) ?_
        refine lv_aload_n hx hb d_PM_totalsOf_82 rfl (lv_at hl 1 rfl) ?_
        refine pz_cv (va_runU (C := "PageMaker$Box") (As := [.ref to2, .ref fr2]) (rest := []) ⟨hx, hb, hml, hown, hts⟩ (ad_box l G (L ++ [to2] ++ [sa2]) f1 _ x to2 sa2 fr2 T F ia ib (hsub _ hxL) hfx1 (List.mem_append_left _ (l_in_new _ _)) hto (hsub _ hr2) hfr1 (l_in_new _ _) hsa) (va_cwA 2 hts (tb_U tw_465 tw_467 tw_468 tw_469 tw_15 tw_470) rfl rfl rfl (hz.1 _ tn_466) (by decide +kernel) ⟨(Nat.le_of_ble_eq_true rfl), (Nat.le_of_ble_eq_true rfl)⟩) (pz_preV (zz_ok _ _ _) hK hP hD hS hA hz (ci := 5) rfl rfl (hsub _ hxL) hfx1) rfl rfl hl.1 rfl (lv_room (Nat.le_of_ble_eq_true rfl)) d_PM_totalsOf_83 ⟨(Nat.le_of_ble_eq_true rfl), (Nat.le_of_ble_eq_true rfl)⟩) hP hD hS hA (fun L6 f5 H locs hw hP hD hS => ?_)
        have ef5 : f5 = va_up (va_up f1 to2 (toE sa2 (t_add (.inl (ia, ib)) F.2.2 T))) sa2 (saE G (t_add (.inl (ia, ib)) F.2.2 T)) := (Prod.mk.inj hw).2
        have eL6 : L6 = (L ++ [to2] ++ [sa2]) := (Prod.mk.inj hw).1
        subst L6
        obtain ⟨f7, ef7⟩ : ∃ y, y = va_up f1 to2 (toE sa2 (t_add (.inl (ia, ib)) F.2.2 T)) := ⟨_, rfl⟩
        rw [← ef7] at ef5
        refine lv_iinc (v := nI (k + 1)) (lv' := [(5, .int (nI (k + 1))), (0, .ref pm), (1, .ref fr2), (2, .int (nI a)), (3, .int (nI b)), (4, .ref to2), (6, .ref x0)]) hx hb d_PM_totalsOf_86 hl (k := 5) rfl (nI_1 k) (by decide) rfl (fun ls hl => ?_)
        refine lv_goto (tgt := 53) hx hb d_PM_totalsOf_89 (by decide) ?_
        exact ih (k + 1) _ f5 H locs ls (by omega) hT1 (by rw [ef5, va_up_ne _ _ (Ne.symm hn3), ef7]; exact va_up_self _ _ _) (by rw [ef5]; exact va_up_self _ _ _) (fun z h1 h2 => by rw [ef5, va_up_ne _ _ h2, ef7, va_up_ne _ _ h1]; exact hkeep z h1 h2) hP hD hS (lv_sub hl [1, 2, 3, 4, 5, 0, 6] rfl)
      · refine va_castY (C := "PageMaker$Glue") hx hb hown (htb _ tw_404) (hz.1 _ tn_885) (pz_recv hK hP (ci := 6) rfl (hsub _ hxL) hfx1) d_PM_totalsOf_77 ?_
        refine lv_aload hx hb d_PM_totalsOf_80 (lv_at hl 4 rfl) ?_
        refine lv_aload_n hx hb d_PM_totalsOf_82 rfl (lv_at hl 1 rfl) ?_
        refine pz_cv (va_runU (C := "PageMaker$Glue") (As := [.ref to2, .ref fr2]) (rest := []) ⟨hx, hb, hml, hown, hts⟩ (ad_glue l G (L ++ [to2] ++ [sa2]) f1 _ x to2 sa2 fr2 T F ia ib io id9 (hsub _ hxL) hfx1 (List.mem_append_left _ (l_in_new _ _)) hto (hsub _ hr2) hfr1 (l_in_new _ _) hsa hok) (va_cwA 2 hts (tb_U tw_465 tw_467 tw_472 tw_473 tw_23 tw_474) rfl rfl rfl (hz.1 _ tn_466) (by decide +kernel) ⟨(Nat.le_of_ble_eq_true rfl), (Nat.le_of_ble_eq_true rfl)⟩) (pz_preV (zz_ok _ _ _) hK hP hD hS hA hz (ci := 6) rfl rfl (hsub _ hxL) hfx1) rfl rfl hl.1 rfl (lv_room (Nat.le_of_ble_eq_true rfl)) d_PM_totalsOf_83 ⟨(Nat.le_of_ble_eq_true rfl), (Nat.le_of_ble_eq_true rfl)⟩) hP hD hS hA (fun L9 f8 H locs hw hP hD hS => ?_)
        have ef8 : f8 = va_up (va_up f1 to2 (toE sa2 (t_add (.inr (.inl (ia, ib, io, id9))) F.2.2 T))) sa2 (saE G (t_add (.inr (.inl (ia, ib, io, id9))) F.2.2 T)) := (Prod.mk.inj hw).2
        have eL9 : L9 = (L ++ [to2] ++ [sa2]) := (Prod.mk.inj hw).1
        subst L9
        obtain ⟨f10, ef10⟩ : ∃ y, y = va_up f1 to2 (toE sa2 (t_add (.inr (.inl (ia, ib, io, id9))) F.2.2 T)) := ⟨_, rfl⟩
        rw [← ef10] at ef8
        refine lv_iinc (v := nI (k + 1)) (lv' := [(5, .int (nI (k + 1))), (0, .ref pm), (1, .ref fr2), (2, .int (nI a)), (3, .int (nI b)), (4, .ref to2), (6, .ref x0)]) hx hb d_PM_totalsOf_86 hl (k := 5) rfl (nI_1 k) (by decide) rfl (fun ls hl => ?_)
        refine lv_goto (tgt := 53) hx hb d_PM_totalsOf_89 (by decide) ?_
        exact ih (k + 1) _ f8 H locs ls (by omega) hT1 (by rw [ef8, va_up_ne _ _ (Ne.symm hn3), ef10]; exact va_up_self _ _ _) (by rw [ef8]; exact va_up_self _ _ _) (fun z h1 h2 => by rw [ef8, va_up_ne _ _ h2, ef10, va_up_ne _ _ h1]; exact hkeep z h1 h2) hP hD hS (lv_sub hl [1, 2, 3, 4, 5, 0, 6] rfl)
      · refine va_castY (C := "PageMaker$Kern") hx hb hown (htb _ tw_404) (hz.1 _ tn_886) (pz_recv hK hP (ci := 7) rfl (hsub _ hxL) hfx1) d_PM_totalsOf_77 ?_
        refine lv_aload hx hb d_PM_totalsOf_80 (lv_at hl 4 rfl) ?_
        refine lv_aload_n hx hb d_PM_totalsOf_82 rfl (lv_at hl 1 rfl) ?_
        refine pz_cv (va_runU (C := "PageMaker$Kern") (As := [.ref to2, .ref fr2]) (rest := []) ⟨hx, hb, hml, hown, hts⟩ (ad_kern l G (L ++ [to2] ++ [sa2]) f1 _ x to2 sa2 fr2 T F ia (hsub _ hxL) hfx1 (List.mem_append_left _ (l_in_new _ _)) hto (l_in_new _ _) hsa) (va_cwA 2 hts (tb_U tw_465 tw_467 tw_476 tw_477 tw_24 tw_478) rfl rfl rfl (hz.1 _ tn_466) (by decide +kernel) ⟨(Nat.le_of_ble_eq_true rfl), (Nat.le_of_ble_eq_true rfl)⟩) (pz_preV (zz_ok _ _ _) hK hP hD hS hA hz (ci := 7) rfl rfl (hsub _ hxL) hfx1) rfl rfl hl.1 rfl (lv_room (Nat.le_of_ble_eq_true rfl)) d_PM_totalsOf_83 ⟨(Nat.le_of_ble_eq_true rfl), (Nat.le_of_ble_eq_true rfl)⟩) hP hD hS hA (fun L12 f11 H locs hw hP hD hS => ?_)
        have ef11 : f11 = va_up (va_up f1 to2 (toE sa2 (t_add (.inr (.inr (.inl ia))) F.2.2 T))) sa2 (saE G (t_add (.inr (.inr (.inl ia))) F.2.2 T)) := (Prod.mk.inj hw).2
        have eL12 : L12 = (L ++ [to2] ++ [sa2]) := (Prod.mk.inj hw).1
        subst L12
        obtain ⟨f13, ef13⟩ : ∃ y, y = va_up f1 to2 (toE sa2 (t_add (.inr (.inr (.inl ia))) F.2.2 T)) := ⟨_, rfl⟩
        rw [← ef13] at ef11
        refine lv_iinc (v := nI (k + 1)) (lv' := [(5, .int (nI (k + 1))), (0, .ref pm), (1, .ref fr2), (2, .int (nI a)), (3, .int (nI b)), (4, .ref to2), (6, .ref x0)]) hx hb d_PM_totalsOf_86 hl (k := 5) rfl (nI_1 k) (by decide) rfl (fun ls hl => ?_)
        refine lv_goto (tgt := 53) hx hb d_PM_totalsOf_89 (by decide) ?_
        exact ih (k + 1) _ f11 H locs ls (by omega) hT1 (by rw [ef11, va_up_ne _ _ (Ne.symm hn3), ef13]; exact va_up_self _ _ _) (by rw [ef11]; exact va_up_self _ _ _) (fun z h1 h2 => by rw [ef11, va_up_ne _ _ h2, ef13, va_up_ne _ _ h1]; exact hkeep z h1 h2) hP hD hS (lv_sub hl [1, 2, 3, 4, 5, 0, 6] rfl)
      · refine va_castY (C := "PageMaker$Penalty") hx hb hown (htb _ tw_404) (hz.1 _ tn_887) (pz_recv hK hP (ci := 8) rfl (hsub _ hxL) hfx1) d_PM_totalsOf_77 ?_
        refine lv_aload hx hb d_PM_totalsOf_80 (lv_at hl 4 rfl) ?_
        refine lv_aload_n hx hb d_PM_totalsOf_82 rfl (lv_at hl 1 rfl) ?_
        refine pz_cv (va_runU (C := "PageMaker$Penalty") (As := [.ref to2, .ref fr2]) (rest := []) ⟨hx, hb, hml, hown, hts⟩ (ad_pen l G (L ++ [to2] ++ [sa2]) f1 _ x to2 sa2 fr2 T F ia hto hsa) (va_cwA 2 hts (tb_U tw_465 tw_467 tw_480 tw_481 tw_25 tw_482) rfl rfl rfl (hz.1 _ tn_466) (by decide +kernel) ⟨(Nat.le_of_ble_eq_true rfl), (Nat.le_of_ble_eq_true rfl)⟩) (pz_preV (zz_ok _ _ _) hK hP hD hS hA hz (ci := 8) rfl rfl (hsub _ hxL) hfx1) rfl rfl hl.1 rfl (lv_room (Nat.le_of_ble_eq_true rfl)) d_PM_totalsOf_83 ⟨(Nat.le_of_ble_eq_true rfl), (Nat.le_of_ble_eq_true rfl)⟩) hP hD hS hA (fun L15 f14 H locs hw hP hD hS => ?_)
        have ef14 : f14 = va_up (va_up f1 to2 (toE sa2 (t_add (.inr (.inr (.inr ia))) F.2.2 T))) sa2 (saE G (t_add (.inr (.inr (.inr ia))) F.2.2 T)) := (Prod.mk.inj hw).2
        have eL15 : L15 = (L ++ [to2] ++ [sa2]) := (Prod.mk.inj hw).1
        subst L15
        obtain ⟨f16, ef16⟩ : ∃ y, y = va_up f1 to2 (toE sa2 (t_add (.inr (.inr (.inr ia))) F.2.2 T)) := ⟨_, rfl⟩
        rw [← ef16] at ef14
        refine lv_iinc (v := nI (k + 1)) (lv' := [(5, .int (nI (k + 1))), (0, .ref pm), (1, .ref fr2), (2, .int (nI a)), (3, .int (nI b)), (4, .ref to2), (6, .ref x0)]) hx hb d_PM_totalsOf_86 hl (k := 5) rfl (nI_1 k) (by decide) rfl (fun ls hl => ?_)
        refine lv_goto (tgt := 53) hx hb d_PM_totalsOf_89 (by decide) ?_
        exact ih (k + 1) _ f14 H locs ls (by omega) hT1 (by rw [ef14, va_up_ne _ _ (Ne.symm hn3), ef16]; exact va_up_self _ _ _) (by rw [ef14]; exact va_up_self _ _ _) (fun z h1 h2 => by rw [ef14, va_up_ne _ _ h2, ef16, va_up_ne _ _ h1]; exact hkeep z h1 h2) hP hD hS (lv_sub hl [1, 2, 3, 4, 5, 0, 6] rfl)
end
section
/-! PageMaker: totalsOf, breakEndsPage -/
/-- a break is looked at -/
def o_at (P : Op) (T : Tt) (F : Fr) (pl : Int32) (len : Int64) (p : Int32) : Bool × Op := if o_ends (k_cost (o_bad T F.1 len) p) p then (true, o_end (o_best P pl (o_bad T F.1 len) (k_cost (o_bad T F.1 len) p)) pl) else (false, o_best P pl (o_bad T F.1 len) (k_cost (o_bad T F.1 len) p))
def c_prev (its : List It) (k : Nat) : Option It := match k with
  | 0 => none
  | j + 1 => its[j]?
/-- what the class does at the place k: does a break end the page, and what is the page then -/
def c_look (P : Op) (T : Tt) (F : Fr) (k : Nat) (it : It) (pv : Option It) : Bool × Op := if P.1 = (-1) then (false, P) else match pv with
  | none => (false, P)
  | some pi => match it with
    | .inr (.inr (.inr p)) => if p < 10000 then o_at P T F (nI k) T.1 p else (false, P)
    | .inr (.inl _) => match pi with
      | .inl _ => o_at P T F (nI k) T.1 0
      | .inr (.inr (.inl _)) => o_at P T F (nI (k - 1)) P.2.1 0
      | _ => (false, P)
    | _ => (false, P)
theorem c_no {L : List Nat} {f : Nat → va_E} {op to fo : Nat} {P : Op} {X : Bool × Op} (h : X = (false, P)) (hfo : f op = opE to fo P) : ((0 : Int32) = 1 ∨ (0 : Int32) = 0) ∧ ((0 : Int32) = 1 ↔ X.1 = true) ∧ (L, f) = (L, va_up f op (opE to fo X.2)) := by
  subst h
  refine ⟨Or.inr rfl, ⟨fun h => absurd h (by decide), fun h => absurd h Bool.false_ne_true⟩, ?_⟩
  show (L, f) = (L, va_up f op (opE to fo P))
  rw [← hfo, pz_up_same]
theorem k_pred {k : Nat} (hk : k < 2 ^ 31) (h : 0 ≤ nI k - 1) : ∃ j, k = j + 1 := by
  cases k with
  | zero => exact absurd h (by decide)
  | succ j => exact ⟨j, rfl⟩
theorem c_prev_none {its : List It} {k : Nat} (hk : k < its.length ∧ its.length ≤ 512) (h : ¬ (0 ≤ nI k - 1 ∧ nI k - 1 < nI its.length)) : c_prev its k = none := by
  cases k with
  | zero => rfl
  | succ j =>
    refine absurd ?_ h
    rw [nI_pred]
    exact ⟨nI_pos' (by omega), nI_lt (by omega) (by omega)⟩
set_option maxHeartbeats 4000000 in
set_option maxRecDepth 100000 in
/-- totalsOf(fr2, a, b) -/
theorem c_PM_totalsOf (l : Launch) (G : gG) (L : List Nat) (f : Nat → va_E) (sz : Nat) (pm al ad el fr op fr2 a b : Nat) (xs : List Nat) (its : List It) (F : Fr) (b0 b1 : Int32) (hp : pm ∈ L) (hfp : f pm = .inr (4, [.ref al, .ref el, .ref fr, .ref op])) (h_al : LR G L f al ad xs) (hX : XR L f xs its) (hr2 : fr2 ∈ L) (hfr2 : f fr2 = frE F) (hab : a ≤ b) (hbn : b ≤ its.length) (hn5 : its.length ≤ 512) (hbx : its[a]? = some (.inl (b0, b1))) : mR l y_PM_totalsOf w_PM_totalsOf ({ frames := 3, cells := 2, slots := 8, locals := 64 }) G L f sz [.ref pm, .ref fr2, .int (nI a), .int (nI b)] 2 8 (fun u => u.1 ∉ L ∧ ∃ sa2, sa2 ∉ L ∧ sa2 ≠ u.1 ∧ u.2.1 = L ++ [u.1] ++ [sa2] ∧ u.2.2 u.1 = toE sa2 (t_list its F a b) ∧ u.2.2 sa2 = saE G (t_list its F a b) ∧ ∀ z, z ≠ u.1 → z ≠ sa2 → u.2.2 z = f z) := by
  refine pz_met (cc := prog_1_method_23_code) (maxL := 7) (ret := (some (.object "PageMaker$Totals"))) (by decide) rfl (Nat.le_of_ble_eq_true rfl) ?_
  intro p e s m below meth c ls hx hb hr hml hts hown hlocks hin hsz hK hP hD hS hA hz hl
  have htb : ∀ w ∈ TB, w.before _ s = true := fun w h => hts w (List.mem_cons_of_mem _ h)
  have hl : lv_has ls 7 [(0, .ref pm), (1, .ref fr2), (2, .int (nI a)), (3, .int (nI b))] := hl
  have hxl : xs.length = its.length := hX.1
  have ha1 : a < its.length := (List.getElem?_eq_some_iff.mp hbx).1
  obtain ⟨x, hx9⟩ : ∃ x, xs[a]? = some x := ⟨_, List.getElem?_eq_getElem (by omega)⟩
  obtain ⟨hxL, hfx, -⟩ := hX.2 a x _ hx9 hbx
  refine pz_new (ci := 3) (fs := [.null, .long 0, .long 0, .long 0]) (C := "PageMaker$Totals") (T := T_TO) (N := 4) hx hb htb in_TO ty_TO to_TO hown (htb _ tw_452) (htb _ tw_91) (htb _ tw_7) hK hP hD hS hA rfl (fun j hj => by rcases (show j = 0 ∨ j = 1 ∨ j = 2 ∨ j = 3 by omega) with rfl | rfl | rfl | rfl <;> rfl) (Nat.le_of_ble_eq_true rfl) (Nat.le_of_ble_eq_true rfl) d_PM_totalsOf_0 (fun q1 L2 f3 H hnq1 eL2 ef3 hP hD hS => ?_)
  subst L2
  refine lv_dup hx hb d_PM_totalsOf_3 rfl ?_
  have h_4 : f3 q1 = .inr (3, [.null, .long 0, .long 0, .long 0]) := by rw [ef3]; exact va_up_self _ _ _
  refine pz_cv (va_runIN (As := []) (rest := [.ref q1]) ⟨hx, hb, hml, hown, hts⟩ (c_TO_init l G (L ++ [q1]) f3 _ q1 0 0 0 (l_in_new _ _) h_4) ⟨va_cnB 0 hts (tb_good tw_94) rfl rfl rfl (hz.1 _ tn_453) (htb _ tw_7) (by decide +kernel) ⟨(Nat.le_of_ble_eq_true rfl), (Nat.le_of_ble_eq_true rfl)⟩, rfl, htb _ tw_93⟩ (pz_pre (zz_ok _ _ _) hK hP hD hS hA hz) rfl rfl hl.1 rfl (lv_room (Nat.le_of_ble_eq_true rfl)) d_PM_totalsOf_4 ⟨(Nat.le_of_ble_eq_true rfl), (Nat.le_of_ble_eq_true rfl)⟩) hP hD hS hA (fun L6 f5 H locs hw hP hD hS => ?_)
  obtain ⟨sa2, hnsa2, hw⟩ := hw
  have eL6 : L6 = (L ++ [q1]) ++ [sa2] := (Prod.mk.inj hw).1
  obtain ⟨f7, ef7⟩ : ∃ y, y = va_up f3 sa2 (.inl (cJ G, 4, .inr (.inl (fun _ => 0)))) := ⟨_, rfl⟩
  subst L6
  have ef5 : f5 = va_up (f7) q1 (.inr (3, [.ref sa2, .long t_0.1, .long t_0.2.1, .long t_0.2.2.1])) := (Prod.mk.inj hw).2.trans (by rw [ef7]; rfl)
  refine W.widen (k := 2) (n := 8) (by decide) (by decide) ?_
  have hkeep : ∀ z, z ≠ q1 → z ≠ sa2 → f5 z = f z := fun z h1 h2 => by rw [ef5, va_up_ne _ _ h1, ef7, va_up_ne _ _ h2, ef3, va_up_ne _ _ h1]
  have hn2 : sa2 ∉ L := fun h => hnsa2 (List.mem_append_left _ h)
  have hn3 : sa2 ≠ q1 := fun h => hnsa2 (by rw [h]; exact l_in_new _ _)
  have hold : ∀ z, z ∈ L → f5 z = f z := fun z hz => hkeep z (Ne.symm (pz_nef hnq1 hz)) (Ne.symm (pz_nef hn2 hz))
  have hsub : ∀ z, z ∈ L → z ∈ L ++ [q1] ++ [sa2] := fun z hz => List.mem_append_left _ (List.mem_append_left _ hz)
  have hal1 : LR G (L ++ [q1] ++ [sa2]) f5 al ad xs := lr_keep h_al hsub (hold _ h_al.choose_spec.1) (fun h => hold _ h)
  have hpm1 : f5 pm = .inr (4, [.ref al, .ref el, .ref fr, .ref op]) := (hold _ hp).trans hfp
  have hfr1 : f5 fr2 = frE F := (hold _ hr2).trans hfr2
  have hfx1 : f5 x = itE (.inl (b0, b1)) := (hold _ hxL).trans hfx
  obtain ⟨mo_al, hm_al, hc_al, -⟩ := id hal1
  refine lv_astore (lv' := [(4, .ref q1), (0, .ref pm), (1, .ref fr2), (2, .int (nI a)), (3, .int (nI b))]) hx hb d_PM_totalsOf_7 hl (by decide) rfl (fun ls hl => ?_)
  refine lv_aload_n hx hb d_PM_totalsOf_9 rfl (lv_at hl 1 rfl) ?_
  refine lv_iload_n hx hb d_PM_totalsOf_10 rfl (lv_at hl 3 rfl) ?_
  refine vp_callSi (va_Run.run (va_runV (As := [.int (nI a)]) (rest := []) ⟨hx, hb, hml, hown, hts⟩ (c_PM_isItem l G ((L ++ [q1]) ++ [sa2]) f5 _ pm al el fr op ad xs (nI a) (hsub _ hp) hpm1 hal1) (cwV 1 hts (tb_V tw_386 tw_388 tp_7 tw_1 tw_389) rfl rfl rfl (by decide +kernel) ⟨(Nat.le_of_ble_eq_true rfl), (Nat.le_of_ble_eq_true rfl)⟩) (pz_preV (zz_ok _ _ _) hK hP hD hS hA hz (ci := 4) rfl rfl (hsub _ hp) hpm1) rfl rfl hl.1 rfl (lv_room (Nat.le_of_ble_eq_true rfl)) d_PM_totalsOf_11 ⟨(Nat.le_of_ble_eq_true rfl), (Nat.le_of_ble_eq_true rfl)⟩)) (fun r8 hw => ?_)
  have hw : r8 = 1 := k_by (show k_b (0 ≤ nI a ∧ nI a < nI xs.length) r8 from hw) ⟨nI_pos' (by omega), nI_lt (by omega) (by omega)⟩
  subst hw
  refine lv_if_eq (tgt := 50) hx hb d_PM_totalsOf_14 (by decide) (fun c0 => absurd c0 (by decide)) (fun _ => ?_)
  refine lv_aload_n hx hb d_PM_totalsOf_17 rfl (lv_at hl 1 rfl) ?_
  refine pz_get (ci := 4) (C := "PageMaker") (T := T_PM) (N := 4) hx hb htb in_PM hown hK hP (hsub _ hp) hpm1 rfl 0 (by decide) (htb _ tw_160) (fun _ h9 => h9) rfl d_PM_totalsOf_18 ?_
  refine lv_iload_n hx hb d_PM_totalsOf_21 rfl (lv_at hl 3 rfl) ?_
  refine va_csq (va_Run.run (va_runV (As := [.int (nI a)]) (rest := []) ⟨hx, hb, hml, hown, hts⟩ (al_get l G ((L ++ [q1]) ++ [sa2]) f5 _ al ad xs a x hal1 hx9) (cwV 1 hts (tb_V tw_390 tw_391 tw_392 tw_4 tw_393) rfl rfl rfl (by decide +kernel) ⟨(Nat.le_of_ble_eq_true rfl), (Nat.le_of_ble_eq_true rfl)⟩) (pz_preV (zz_ok _ _ _) hK hP hD hS hA hz (ci := 0) rfl rfl hm_al hc_al) rfl rfl hl.1 rfl (lv_room (Nat.le_of_ble_eq_true rfl)) d_PM_totalsOf_22 ⟨(Nat.le_of_ble_eq_true rfl), (Nat.le_of_ble_eq_true rfl)⟩)) (fun r9 hw => ?_)
  have hw : r9 = some x := hw
  subst hw
  refine W.eq (g2 := F0 m 25 ls [.ref x]) rfl ?_
  refine lv_astore (lv' := [(6, .ref x), (4, .ref q1), (0, .ref pm), (1, .ref fr2), (2, .int (nI a)), (3, .int (nI b))]) hx hb d_PM_totalsOf_25 hl (by decide) rfl (fun ls hl => ?_)
  refine lv_aload hx hb d_PM_totalsOf_27 (lv_at hl 0 rfl) ?_
  refine va_instE hx hb hown (htb _ tw_298) (pz_recv hK hP (ci := 5) rfl (hsub _ hxL) hfx1) d_PM_totalsOf_29 ?_
  refine lv_if_eq (tgt := 50) hx hb d_PM_totalsOf_32 (by decide) (fun c0 => absurd c0 (by decide)) (fun _ => ?_)
  refine lv_aload hx hb d_PM_totalsOf_35 (lv_at hl 0 rfl) ?_
  refine va_castE hx hb hown (htb _ tw_298) (pz_recv hK hP (ci := 5) rfl (hsub _ hxL) hfx1) d_PM_totalsOf_37 ?_
  refine lv_astore (lv' := [(5, .ref x), (6, .ref x), (4, .ref q1), (0, .ref pm), (1, .ref fr2), (2, .int (nI a)), (3, .int (nI b))]) hx hb d_PM_totalsOf_40 hl (by decide) rfl (fun ls hl => ?_)
  refine lv_aload hx hb d_PM_totalsOf_42 (lv_at hl 2 rfl) ?_
  refine lv_aload_n hx hb d_PM_totalsOf_44 rfl (lv_at hl 4 rfl) ?_
  refine lv_aload hx hb d_PM_totalsOf_45 (lv_at hl 0 rfl) ?_
  have h_10 : f5 q1 = .inr (3, [.ref sa2, .long t_0.1, .long t_0.2.1, .long t_0.2.2.1]) := by rw [ef5]; exact va_up_self _ _ _
  refine pz_cv (va_runV (As := [.ref fr2, .ref x]) (rest := []) ⟨hx, hb, hml, hown, hts⟩ (c_TO_addTopGlue l G ((L ++ [q1]) ++ [sa2]) f5 _ q1 sa2 fr2 x t_0.1 t_0.2.1 t_0.2.2.1 F.1 F.2.1 F.2.2 b0 b1 (List.mem_append_left _ (l_in_new _ _)) h_10 (hsub _ hr2) hfr1 (hsub _ hxL) hfx1) (cwV 2 hts (tb_V tw_454 tw_455 tw_456 tw_7 tw_457) rfl rfl rfl (by decide +kernel) ⟨(Nat.le_of_ble_eq_true rfl), (Nat.le_of_ble_eq_true rfl)⟩) (pz_preV (zz_ok _ _ _) hK hP hD hS hA hz (ci := 3) rfl rfl (List.mem_append_left _ (l_in_new _ _)) h_10) rfl rfl hl.1 rfl (lv_room (Nat.le_of_ble_eq_true rfl)) d_PM_totalsOf_47 ⟨(Nat.le_of_ble_eq_true rfl), (Nat.le_of_ble_eq_true rfl)⟩) hP hD hS hA (fun L12 f11 H locs hw hP hD hS => ?_)
  have ef11 : f11 = va_up (f5) q1 (toE sa2 (t_sp (k_top F.2.1 b0) t_0)) := (Prod.mk.inj hw).2
  have eL12 : L12 = ((L ++ [q1]) ++ [sa2]) := (Prod.mk.inj hw).1
  subst L12
  refine lv_iload_n hx hb d_PM_totalsOf_50 rfl (lv_at hl 5 rfl) ?_
  refine lv_istore (lv' := [(5, .int (nI a)), (6, .ref x), (4, .ref q1), (0, .ref pm), (1, .ref fr2), (2, .int (nI a)), (3, .int (nI b))]) hx hb d_PM_totalsOf_51 hl (by decide) rfl (fun ls hl => ?_)
  have hT9 : t_list its F a b = t_run its F.2.2 a (b - a) (t_sp (k_top F.2.1 b0) t_0) := by rw [t_list, t_top, hbx]
  have h_15 : f7 sa2 = .inl (cJ G, 4, .inr (.inl (fun _ => 0))) := by rw [ef7]; exact va_up_self _ _ _
  have h_14 : f5 sa2 = .inl (cJ G, 4, .inr (.inl (fun _ => 0))) := by rw [ef5, va_up_ne _ _ (pz_nef hnsa2 (l_in_new _ _))]; exact h_15
  have h_13 : f11 sa2 = .inl (cJ G, 4, .inr (.inl (fun _ => 0))) := by rw [ef11, va_up_ne _ _ (pz_nef hnsa2 (l_in_new _ _))]; exact h_14
  exact lp_totalsOf l G L f sz pm al ad el fr op fr2 q1 sa2 x a b xs its F hx hb hr hml hts hown hlocks hK hA hz hp hfp h_al hX hr2 hfr2 hnq1 hn2 hn3 hbn hn5 (b - a) a (t_sp (k_top F.2.1 b0) t_0) f11 H locs ls (by omega) hT9.symm (by rw [ef11]; exact va_up_self _ _ _) (by rw [ef11, va_up_ne _ _ hn3]; exact h_14) (fun z h1 h2 => by rw [ef11, va_up_ne _ _ h1]; exact hkeep z h1 h2) hP hD hS (lv_sub hl [3, 4, 5, 6, 2, 0, 1] rfl)
set_option maxHeartbeats 4000000 in
set_option maxRecDepth 100000 in
/-- breakEndsPage(k, x) -/
theorem c_PM_breakEndsPage (l : Launch) (G : gG) (L : List Nat) (f : Nat → va_E) (sz : Nat) (pm al ad el ed fr op to sa fo : Nat) (xs : List Nat) (its : List It) (F F9 : Fr) (P : Op) (T : Tt) (k x : Nat) (it : It) (hp : pm ∈ L) (hfp : f pm = .inr (4, [.ref al, .ref el, .ref fr, .ref op])) (h_al : LR G L f al ad xs) (hX : XR L f xs its) (hr9 : fr ∈ L) (hfr : f fr = frE F9) (ho : op ∈ L) (hfo : f op = opE to fo P) (ht : to ∈ L) (hft : f to = toE sa T) (hs9 : sa ∈ L) (hsa : f sa = saE G T) (hr8 : fo ∈ L) (hfof : f fo = frE F) (hk : k < its.length) (hx9 : xs[k]? = some x) (hi9 : its[k]? = some it) (hn5 : its.length ≤ 512) : mI l y_PM_breakEndsPage w_PM_breakEndsPage ({ frames := 3, cells := 0, slots := 0, locals := 73 }) G L f sz [.ref pm, .int (nI k), .ref x] 0 0 (fun r u => (r = 1 ∨ r = 0) ∧ (r = 1 ↔ (c_look P T F k it (c_prev its k)).1 = true) ∧ u = (L, va_up f op (opE to fo (c_look P T F k it (c_prev its k)).2))) := by
  refine pz_met (cc := prog_1_method_20_code) (maxL := 4) (ret := (some .boolean)) (by decide) rfl (Nat.le_of_ble_eq_true rfl) ?_
  intro p e s m below meth c ls hx hb hr hml hts hown hlocks hin hsz hK hP hD hS hA hz hl
  have htb : ∀ w ∈ TB, w.before _ s = true := fun w h => hts w (List.mem_cons_of_mem _ h)
  have hl : lv_has ls 4 [(0, .ref pm), (1, .int (nI k)), (2, .ref x)] := hl
  obtain ⟨mo_al, hm_al, hc_al, -⟩ := id h_al
  have hxl : xs.length = its.length := hX.1
  obtain ⟨hxL, hfx, hok⟩ := hX.2 k x it hx9 hi9
  refine lv_aload_n hx hb d_PM_breakEndsPage_0 rfl (lv_at hl 0 rfl) ?_
  refine pz_get (ci := 4) (C := "PageMaker") (T := T_PM) (N := 4) hx hb htb in_PM hown hK hP hp hfp rfl 3 (by decide) (htb _ tw_163) (fun _ h9 => h9) rfl d_PM_breakEndsPage_1 ?_
  refine vp_callSi (va_Run.run (va_runV (As := []) (rest := []) ⟨hx, hb, hml, hown, hts⟩ (c_OP_hasBegun l G L f _ op to fo P.1 P.2.2.1 P.2.2.2.1 P.2.2.2.2.1 P.2.2.2.2.2 P.2.1 ho hfo) (cwV 0 hts (tb_V tw_409 tw_410 tw_411 tw_6 tw_412) rfl rfl rfl (by decide +kernel) ⟨(Nat.le_of_ble_eq_true rfl), (Nat.le_of_ble_eq_true rfl)⟩) (pz_preV (zz_ok _ _ _) hK hP hD hS hA hz (ci := 2) rfl rfl ho hfo) rfl rfl hl.1 rfl (lv_room (Nat.le_of_ble_eq_true rfl)) d_PM_breakEndsPage_4 ⟨(Nat.le_of_ble_eq_true rfl), (Nat.le_of_ble_eq_true rfl)⟩)) (fun r1 hw => ?_)
  rcases (show k_b (¬ P.1 = (-1)) r1 from hw) with ⟨rfl, hq2⟩ | ⟨rfl, hq2⟩
  · refine lv_if_eq (tgt := 20) hx hb d_PM_breakEndsPage_7 (by decide) (fun c0 => absurd c0 (by decide)) (fun _ => ?_)
    refine lv_aload_n hx hb d_PM_breakEndsPage_10 rfl (lv_at hl 0 rfl) ?_
    refine lv_iload_n hx hb d_PM_breakEndsPage_11 rfl (lv_at hl 1 rfl) ?_
    refine lv_iconst (v := 1) hx hb d_PM_breakEndsPage_12 (by decide) ?_
    refine lv_isub hx hb d_PM_breakEndsPage_13 ?_
    refine vp_callSi (va_Run.run (va_runV (As := [.int (nI k - 1)]) (rest := []) ⟨hx, hb, hml, hown, hts⟩ (c_PM_isItem l G L f _ pm al el fr op ad xs (nI k - 1) hp hfp h_al) (cwV 1 hts (tb_V tw_386 tw_388 tp_7 tw_1 tw_389) rfl rfl rfl (by decide +kernel) ⟨(Nat.le_of_ble_eq_true rfl), (Nat.le_of_ble_eq_true rfl)⟩) (pz_preV (zz_ok _ _ _) hK hP hD hS hA hz (ci := 4) rfl rfl hp hfp) rfl rfl hl.1 rfl (lv_room (Nat.le_of_ble_eq_true rfl)) d_PM_breakEndsPage_14 ⟨(Nat.le_of_ble_eq_true rfl), (Nat.le_of_ble_eq_true rfl)⟩)) (fun r3 hw => ?_)
    rcases (show k_b (0 ≤ nI k - 1 ∧ nI k - 1 < nI xs.length) r3 from hw) with ⟨rfl, hq4⟩ | ⟨rfl, hq4⟩
    · refine lv_if_ne (tgt := 22) hx hb d_PM_breakEndsPage_17 (by decide) (fun _ => ?_) (fun c0 => absurd c0 (by decide))
      obtain ⟨j, rfl⟩ := k_pred (by omega) hq4.1
      obtain ⟨x1, hx1⟩ : ∃ x, xs[j]? = some x := ⟨_, List.getElem?_eq_getElem (by omega)⟩
      obtain ⟨it1, hi1⟩ : ∃ it, its[j]? = some it := ⟨_, List.getElem?_eq_getElem (by omega)⟩
      obtain ⟨hx1L, hfx1, hok1⟩ := hX.2 j x1 it1 hx1 hi1
      have hpv : c_prev its (j + 1) = some it1 := hi1
      refine lv_aload_n hx hb d_PM_breakEndsPage_22 rfl (lv_at hl 2 rfl) ?_
      rcases it with ⟨ia, ib⟩ | ⟨ia, ib, io, id9⟩ | ia | ia
      · refine va_instNo (C := "PageMaker$Box") hx hb hown (htb _ tw_413) (hz.2.1 ("PageMaker$Box", "PageMaker$Penalty") (by decide +kernel)) (pz_recv hK hP (ci := 5) rfl hxL hfx) d_PM_breakEndsPage_23 ?_
        refine lv_if_eq (tgt := 75) hx hb d_PM_breakEndsPage_26 (by decide) (fun _ => ?_) (fun c0 => absurd c0 (by decide))
        refine lv_aload_n hx hb d_PM_breakEndsPage_75 rfl (lv_at hl 2 rfl) ?_
        refine va_instNo (C := "PageMaker$Box") hx hb hown (htb _ tw_440) (hz.2.1 ("PageMaker$Box", "PageMaker$Glue") (by decide +kernel)) (pz_recv hK hP (ci := 5) rfl hxL hfx) d_PM_breakEndsPage_76 ?_
        refine lv_if_ne (tgt := 84) hx hb d_PM_breakEndsPage_79 (by decide) (fun c0 => absurd c0 (by decide)) (fun _ => ?_)
        refine lv_iconst (v := 0) hx hb d_PM_breakEndsPage_82 (by decide) ?_
        exact pz_iret hx hb hr rfl hlocks hK hP hD hS (Nat.le_of_ble_eq_true rfl) (Nat.le_of_ble_eq_true rfl) (c_no (by rw [hpv]; exact if_neg hq2) hfo) d_PM_breakEndsPage_83
      · refine va_instNo (C := "PageMaker$Glue") hx hb hown (htb _ tw_413) (hz.2.1 ("PageMaker$Glue", "PageMaker$Penalty") (by decide +kernel)) (pz_recv hK hP (ci := 6) rfl hxL hfx) d_PM_breakEndsPage_23 ?_
        refine lv_if_eq (tgt := 75) hx hb d_PM_breakEndsPage_26 (by decide) (fun _ => ?_) (fun c0 => absurd c0 (by decide))
        refine lv_aload_n hx hb d_PM_breakEndsPage_75 rfl (lv_at hl 2 rfl) ?_
        refine va_instE hx hb hown (htb _ tw_440) (pz_recv hK hP (ci := 6) rfl hxL hfx) d_PM_breakEndsPage_76 ?_
        refine lv_if_ne (tgt := 84) hx hb d_PM_breakEndsPage_79 (by decide) (fun _ => ?_) (fun c0 => absurd c0 (by decide))
        refine lv_aload_n hx hb d_PM_breakEndsPage_84 rfl (lv_at hl 0 rfl) ?_
        refine pz_get (ci := 4) (C := "PageMaker") (T := T_PM) (N := 4) hx hb htb in_PM hown hK hP hp hfp rfl 0 (by decide) (htb _ tw_160) (fun _ h9 => h9) rfl d_PM_breakEndsPage_85 ?_
        refine lv_iload_n hx hb d_PM_breakEndsPage_88 rfl (lv_at hl 1 rfl) ?_
        refine lv_iconst (v := 1) hx hb d_PM_breakEndsPage_89 (by decide) ?_
        refine lv_isub hx hb d_PM_breakEndsPage_90 ?_
        refine lv_topi (fun x5 ex5 => ?_)
        have ex5 : x5 = nI j := ex5.trans (nI_pred j)
        subst ex5
        refine va_csq (va_Run.run (va_runV (As := [.int (nI j)]) (rest := []) ⟨hx, hb, hml, hown, hts⟩ (al_get l G L f _ al ad xs j x1 h_al hx1) (cwV 1 hts (tb_V tw_390 tw_391 tw_392 tw_4 tw_393) rfl rfl rfl (by decide +kernel) ⟨(Nat.le_of_ble_eq_true rfl), (Nat.le_of_ble_eq_true rfl)⟩) (pz_preV (zz_ok _ _ _) hK hP hD hS hA hz (ci := 0) rfl rfl hm_al hc_al) rfl rfl hl.1 rfl (lv_room (Nat.le_of_ble_eq_true rfl)) d_PM_breakEndsPage_91 ⟨(Nat.le_of_ble_eq_true rfl), (Nat.le_of_ble_eq_true rfl)⟩)) (fun r6 hw => ?_)
        have hw : r6 = some x1 := hw
        subst hw
        refine W.eq (g2 := F0 m 94 ls [.ref x1]) rfl ?_
        rcases it1 with ⟨ja, jb⟩ | ⟨ja, jb, jo, jd9⟩ | ja | ja
        · refine va_castY (C := "PageMaker$Box") hx hb hown (htb _ tw_404) (hz.1 _ tn_884) (pz_recv hK hP (ci := 5) rfl hx1L hfx1) d_PM_breakEndsPage_94 ?_
          refine lv_astore_n (lv' := [(3, .ref x1), (0, .ref pm), (1, .int (nI (j + 1))), (2, .ref x)]) hx hb d_PM_breakEndsPage_97 rfl hl (by decide) rfl (fun ls hl => ?_)
          refine lv_aload_n hx hb d_PM_breakEndsPage_98 rfl (lv_at hl 0 rfl) ?_
          refine va_instE hx hb hown (htb _ tw_298) (pz_recv hK hP (ci := 5) rfl hx1L hfx1) d_PM_breakEndsPage_99 ?_
          refine lv_if_eq (tgt := 125) hx hb d_PM_breakEndsPage_102 (by decide) (fun c0 => absurd c0 (by decide)) (fun _ => ?_)
          refine lv_aload_n hx hb d_PM_breakEndsPage_105 rfl (lv_at hl 1 rfl) ?_
          refine pz_get (ci := 4) (C := "PageMaker") (T := T_PM) (N := 4) hx hb htb in_PM hown hK hP hp hfp rfl 3 (by decide) (htb _ tw_163) (fun _ h9 => h9) rfl d_PM_breakEndsPage_106 ?_
          refine lv_iload_n hx hb d_PM_breakEndsPage_109 rfl (lv_at hl 2 rfl) ?_
          refine lv_aload_n hx hb d_PM_breakEndsPage_110 rfl (lv_at hl 1 rfl) ?_
          refine pz_get (ci := 4) (C := "PageMaker") (T := T_PM) (N := 4) hx hb htb in_PM hown hK hP hp hfp rfl 3 (by decide) (htb _ tw_163) (fun _ h9 => h9) rfl d_PM_breakEndsPage_111 ?_
          refine pz_get (ci := 2) (C := "PageMaker$OpenPage") (T := T_OP) (N := 8) hx hb htb in_OP hown hK hP ho hfo rfl 0 (by decide) (htb _ tw_124) (fun _ h9 => h9) rfl d_PM_breakEndsPage_114 ?_
          refine pz_get (ci := 3) (C := "PageMaker$Totals") (T := T_TO) (N := 4) hx hb htb in_TO hown hK hP ht hft rfl 1 (by decide) (htb _ tw_104) (fun _ h9 => h9) rfl d_PM_breakEndsPage_117 ?_
          refine lv_iconst (v := 0) hx hb d_PM_breakEndsPage_120 (by decide) ?_
          refine pz_ci (va_runV (As := [.int (nI (j + 1)), .long T.1, .int 0]) (rest := []) ⟨hx, hb, hml, hown, hts⟩ (c_OP_endsAtBreak l G L f _ op to sa fo P T F (nI (j + 1)) 0 T.1 ho hfo ht hft hs9 hsa hr8 hfof) (cwV 3 hts (tb_V tw_414 tw_415 tw_416 tw_6 tw_417) rfl rfl rfl (by decide +kernel) ⟨(Nat.le_of_ble_eq_true rfl), (Nat.le_of_ble_eq_true rfl)⟩) (pz_preV (zz_ok _ _ _) hK hP hD hS hA hz (ci := 2) rfl rfl ho hfo) rfl rfl hl.1 rfl (lv_room (Nat.le_of_ble_eq_true rfl)) d_PM_breakEndsPage_121 ⟨(Nat.le_of_ble_eq_true rfl), (Nat.le_of_ble_eq_true rfl)⟩) hP hD hS hA (fun r9 L9 f9 H locs hw hP hD hS => ?_)
          have hlk : c_look P T F (j + 1) (.inr (.inl (ia, ib, io, id9))) (c_prev its (j + 1)) = o_at P T F (nI (j + 1)) T.1 0 := by rw [hpv]; exact if_neg hq2
          obtain ⟨hb9, h1, h0⟩ := hw
          rcases hb9 with ⟨rfl, hb9⟩ | ⟨rfl, hb9⟩
          · have e9 := Prod.mk.inj (h1 rfl)
            have eL9 : L9 = L := e9.1
            have ef9 := e9.2
            subst L9
            exact pz_iret hx hb hr rfl hlocks hK hP hD hS (Nat.le_of_ble_eq_true rfl) (Nat.le_of_ble_eq_true rfl) ⟨Or.inl rfl, ⟨fun _ => by rw [hlk, o_at, if_pos hb9], fun _ => rfl⟩, by rw [hlk, o_at, if_pos hb9]; exact congrArg (Prod.mk L) ef9⟩ d_PM_breakEndsPage_124
          · have e9 := Prod.mk.inj (h0 rfl)
            have eL9 : L9 = L := e9.1
            have ef9 := e9.2
            subst L9
            exact pz_iret hx hb hr rfl hlocks hK hP hD hS (Nat.le_of_ble_eq_true rfl) (Nat.le_of_ble_eq_true rfl) ⟨Or.inr rfl, ⟨fun h => absurd h (by decide), fun h => by rw [hlk, o_at, if_neg hb9] at h; exact absurd h Bool.false_ne_true⟩, by rw [hlk, o_at, if_neg hb9]; exact congrArg (Prod.mk L) ef9⟩ d_PM_breakEndsPage_124
        · refine va_castY (C := "PageMaker$Glue") hx hb hown (htb _ tw_404) (hz.1 _ tn_885) (pz_recv hK hP (ci := 6) rfl hx1L hfx1) d_PM_breakEndsPage_94 ?_
          refine lv_astore_n (lv' := [(3, .ref x1), (0, .ref pm), (1, .int (nI (j + 1))), (2, .ref x)]) hx hb d_PM_breakEndsPage_97 rfl hl (by decide) rfl (fun ls hl => ?_)
          refine lv_aload_n hx hb d_PM_breakEndsPage_98 rfl (lv_at hl 0 rfl) ?_
          refine va_instNo (C := "PageMaker$Glue") hx hb hown (htb _ tw_298) (hz.2.1 ("PageMaker$Glue", "PageMaker$Box") (by decide +kernel)) (pz_recv hK hP (ci := 6) rfl hx1L hfx1) d_PM_breakEndsPage_99 ?_
          refine lv_if_eq (tgt := 125) hx hb d_PM_breakEndsPage_102 (by decide) (fun _ => ?_) (fun c0 => absurd c0 (by decide))
          refine lv_aload_n hx hb d_PM_breakEndsPage_125 rfl (lv_at hl 0 rfl) ?_
          refine va_instNo (C := "PageMaker$Glue") hx hb hown (htb _ tw_441) (hz.2.1 ("PageMaker$Glue", "PageMaker$Kern") (by decide +kernel)) (pz_recv hK hP (ci := 6) rfl hx1L hfx1) d_PM_breakEndsPage_126 ?_
          refine lv_if_eq (tgt := 157) hx hb d_PM_breakEndsPage_129 (by decide) (fun _ => ?_) (fun c0 => absurd c0 (by decide))
          refine lv_iconst (v := 0) hx hb d_PM_breakEndsPage_157 (by decide) ?_
          exact pz_iret hx hb hr rfl hlocks hK hP hD hS (Nat.le_of_ble_eq_true rfl) (Nat.le_of_ble_eq_true rfl) (c_no (by rw [hpv]; exact if_neg hq2) hfo) d_PM_breakEndsPage_158
        · refine va_castY (C := "PageMaker$Kern") hx hb hown (htb _ tw_404) (hz.1 _ tn_886) (pz_recv hK hP (ci := 7) rfl hx1L hfx1) d_PM_breakEndsPage_94 ?_
          refine lv_astore_n (lv' := [(3, .ref x1), (0, .ref pm), (1, .int (nI (j + 1))), (2, .ref x)]) hx hb d_PM_breakEndsPage_97 rfl hl (by decide) rfl (fun ls hl => ?_)
          refine lv_aload_n hx hb d_PM_breakEndsPage_98 rfl (lv_at hl 0 rfl) ?_
          refine va_instNo (C := "PageMaker$Kern") hx hb hown (htb _ tw_298) (hz.2.1 ("PageMaker$Kern", "PageMaker$Box") (by decide +kernel)) (pz_recv hK hP (ci := 7) rfl hx1L hfx1) d_PM_breakEndsPage_99 ?_
          refine lv_if_eq (tgt := 125) hx hb d_PM_breakEndsPage_102 (by decide) (fun _ => ?_) (fun c0 => absurd c0 (by decide))
          refine lv_aload_n hx hb d_PM_breakEndsPage_125 rfl (lv_at hl 0 rfl) ?_
          refine va_instE hx hb hown (htb _ tw_441) (pz_recv hK hP (ci := 7) rfl hx1L hfx1) d_PM_breakEndsPage_126 ?_
          refine lv_if_eq (tgt := 157) hx hb d_PM_breakEndsPage_129 (by decide) (fun c0 => absurd c0 (by decide)) (fun _ => ?_)
          refine lv_aload_n hx hb d_PM_breakEndsPage_132 rfl (lv_at hl 1 rfl) ?_
          refine pz_get (ci := 4) (C := "PageMaker") (T := T_PM) (N := 4) hx hb htb in_PM hown hK hP hp hfp rfl 3 (by decide) (htb _ tw_163) (fun _ h9 => h9) rfl d_PM_breakEndsPage_133 ?_
          refine lv_iload_n hx hb d_PM_breakEndsPage_136 rfl (lv_at hl 2 rfl) ?_
          refine lv_iconst (v := 1) hx hb d_PM_breakEndsPage_137 (by decide) ?_
          refine lv_isub hx hb d_PM_breakEndsPage_138 ?_
          refine lv_topi (fun x7 ex7 => ?_)
          have ex7 : x7 = nI j := ex7.trans (nI_pred j)
          subst ex7
          refine lv_aload_n hx hb d_PM_breakEndsPage_139 rfl (lv_at hl 1 rfl) ?_
          refine pz_get (ci := 4) (C := "PageMaker") (T := T_PM) (N := 4) hx hb htb in_PM hown hK hP hp hfp rfl 3 (by decide) (htb _ tw_163) (fun _ h9 => h9) rfl d_PM_breakEndsPage_140 ?_
          refine pz_get (ci := 2) (C := "PageMaker$OpenPage") (T := T_OP) (N := 8) hx hb htb in_OP hown hK hP ho hfo rfl 3 (by decide) (htb _ tw_132) (fun _ h9 => h9) rfl d_PM_breakEndsPage_143 ?_
          refine lv_iconst (v := 0) hx hb d_PM_breakEndsPage_146 (by decide) ?_
          refine pz_ci (va_runV (As := [.int (nI j), .long P.2.1, .int 0]) (rest := []) ⟨hx, hb, hml, hown, hts⟩ (c_OP_endsAtBreak l G L f _ op to sa fo P T F (nI j) 0 P.2.1 ho hfo ht hft hs9 hsa hr8 hfof) (cwV 3 hts (tb_V tw_414 tw_415 tw_416 tw_6 tw_417) rfl rfl rfl (by decide +kernel) ⟨(Nat.le_of_ble_eq_true rfl), (Nat.le_of_ble_eq_true rfl)⟩) (pz_preV (zz_ok _ _ _) hK hP hD hS hA hz (ci := 2) rfl rfl ho hfo) rfl rfl hl.1 rfl (lv_room (Nat.le_of_ble_eq_true rfl)) d_PM_breakEndsPage_147 ⟨(Nat.le_of_ble_eq_true rfl), (Nat.le_of_ble_eq_true rfl)⟩) hP hD hS hA (fun r9 L9 f9 H locs hw hP hD hS => ?_)
          have hlk : c_look P T F (j + 1) (.inr (.inl (ia, ib, io, id9))) (c_prev its (j + 1)) = o_at P T F (nI j) P.2.1 0 := by rw [hpv]; exact if_neg hq2
          obtain ⟨hb9, h1, h0⟩ := hw
          rcases hb9 with ⟨rfl, hb9⟩ | ⟨rfl, hb9⟩
          · have e9 := Prod.mk.inj (h1 rfl)
            have eL9 : L9 = L := e9.1
            have ef9 := e9.2
            subst L9
            refine lv_if_eq (tgt := 157) hx hb d_PM_breakEndsPage_150 (by decide) (fun c0 => absurd c0 (by decide)) (fun _ => ?_)
            refine lv_iconst (v := 1) hx hb d_PM_breakEndsPage_153 (by decide) ?_
            refine lv_goto (tgt := 158) hx hb d_PM_breakEndsPage_154 (by decide) ?_
            exact pz_iret hx hb hr rfl hlocks hK hP hD hS (Nat.le_of_ble_eq_true rfl) (Nat.le_of_ble_eq_true rfl) ⟨Or.inl rfl, ⟨fun _ => by rw [hlk, o_at, if_pos hb9], fun _ => rfl⟩, by rw [hlk, o_at, if_pos hb9]; exact congrArg (Prod.mk L) ef9⟩ d_PM_breakEndsPage_158
          · have e9 := Prod.mk.inj (h0 rfl)
            have eL9 : L9 = L := e9.1
            have ef9 := e9.2
            subst L9
            refine lv_if_eq (tgt := 157) hx hb d_PM_breakEndsPage_150 (by decide) (fun _ => ?_) (fun c0 => absurd c0 (by decide))
            refine lv_iconst (v := 0) hx hb d_PM_breakEndsPage_157 (by decide) ?_
            exact pz_iret hx hb hr rfl hlocks hK hP hD hS (Nat.le_of_ble_eq_true rfl) (Nat.le_of_ble_eq_true rfl) ⟨Or.inr rfl, ⟨fun h => absurd h (by decide), fun h => by rw [hlk, o_at, if_neg hb9] at h; exact absurd h Bool.false_ne_true⟩, by rw [hlk, o_at, if_neg hb9]; exact congrArg (Prod.mk L) ef9⟩ d_PM_breakEndsPage_158
        · refine va_castY (C := "PageMaker$Penalty") hx hb hown (htb _ tw_404) (hz.1 _ tn_887) (pz_recv hK hP (ci := 8) rfl hx1L hfx1) d_PM_breakEndsPage_94 ?_
          refine lv_astore_n (lv' := [(3, .ref x1), (0, .ref pm), (1, .int (nI (j + 1))), (2, .ref x)]) hx hb d_PM_breakEndsPage_97 rfl hl (by decide) rfl (fun ls hl => ?_)
          refine lv_aload_n hx hb d_PM_breakEndsPage_98 rfl (lv_at hl 0 rfl) ?_
          refine va_instNo (C := "PageMaker$Penalty") hx hb hown (htb _ tw_298) (hz.2.1 ("PageMaker$Penalty", "PageMaker$Box") (by decide +kernel)) (pz_recv hK hP (ci := 8) rfl hx1L hfx1) d_PM_breakEndsPage_99 ?_
          refine lv_if_eq (tgt := 125) hx hb d_PM_breakEndsPage_102 (by decide) (fun _ => ?_) (fun c0 => absurd c0 (by decide))
          refine lv_aload_n hx hb d_PM_breakEndsPage_125 rfl (lv_at hl 0 rfl) ?_
          refine va_instNo (C := "PageMaker$Penalty") hx hb hown (htb _ tw_441) (hz.2.1 ("PageMaker$Penalty", "PageMaker$Kern") (by decide +kernel)) (pz_recv hK hP (ci := 8) rfl hx1L hfx1) d_PM_breakEndsPage_126 ?_
          refine lv_if_eq (tgt := 157) hx hb d_PM_breakEndsPage_129 (by decide) (fun _ => ?_) (fun c0 => absurd c0 (by decide))
          refine lv_iconst (v := 0) hx hb d_PM_breakEndsPage_157 (by decide) ?_
          exact pz_iret hx hb hr rfl hlocks hK hP hD hS (Nat.le_of_ble_eq_true rfl) (Nat.le_of_ble_eq_true rfl) (c_no (by rw [hpv]; exact if_neg hq2) hfo) d_PM_breakEndsPage_158
      · refine va_instNo (C := "PageMaker$Kern") hx hb hown (htb _ tw_413) (hz.2.1 ("PageMaker$Kern", "PageMaker$Penalty") (by decide +kernel)) (pz_recv hK hP (ci := 7) rfl hxL hfx) d_PM_breakEndsPage_23 ?_
        refine lv_if_eq (tgt := 75) hx hb d_PM_breakEndsPage_26 (by decide) (fun _ => ?_) (fun c0 => absurd c0 (by decide))
        refine lv_aload_n hx hb d_PM_breakEndsPage_75 rfl (lv_at hl 2 rfl) ?_
        refine va_instNo (C := "PageMaker$Kern") hx hb hown (htb _ tw_440) (hz.2.1 ("PageMaker$Kern", "PageMaker$Glue") (by decide +kernel)) (pz_recv hK hP (ci := 7) rfl hxL hfx) d_PM_breakEndsPage_76 ?_
        refine lv_if_ne (tgt := 84) hx hb d_PM_breakEndsPage_79 (by decide) (fun c0 => absurd c0 (by decide)) (fun _ => ?_)
        refine lv_iconst (v := 0) hx hb d_PM_breakEndsPage_82 (by decide) ?_
        exact pz_iret hx hb hr rfl hlocks hK hP hD hS (Nat.le_of_ble_eq_true rfl) (Nat.le_of_ble_eq_true rfl) (c_no (by rw [hpv]; exact if_neg hq2) hfo) d_PM_breakEndsPage_83
      · refine va_instE hx hb hown (htb _ tw_413) (pz_recv hK hP (ci := 8) rfl hxL hfx) d_PM_breakEndsPage_23 ?_
        refine lv_if_eq (tgt := 75) hx hb d_PM_breakEndsPage_26 (by decide) (fun c0 => absurd c0 (by decide)) (fun _ => ?_)
        refine lv_aload_n hx hb d_PM_breakEndsPage_29 rfl (lv_at hl 2 rfl) ?_
        refine va_castE hx hb hown (htb _ tw_413) (pz_recv hK hP (ci := 8) rfl hxL hfx) d_PM_breakEndsPage_30 ?_
        refine lv_astore_n (lv' := [(3, .ref x), (0, .ref pm), (1, .int (nI (j + 1))), (2, .ref x)]) hx hb d_PM_breakEndsPage_33 rfl hl (by decide) rfl (fun ls hl => ?_)
        refine lv_aload_n hx hb d_PM_breakEndsPage_34 rfl (lv_at hl 0 rfl) ?_
        refine pz_get (ci := 8) (C := "PageMaker$Penalty") (T := T_PE) (N := 1) hx hb htb in_PE hown hK hP hxL hfx rfl 0 (by decide) (htb _ tw_599) (fun _ h9 => h9) rfl d_PM_breakEndsPage_35 ?_
        refine lv_sipush (v := 10000) hx hb d_PM_breakEndsPage_38 (by decide) ?_
        refine lv_icmp_ge (tgt := 73) hx hb d_PM_breakEndsPage_41 (by decide) (fun c_8 => ?_) (fun c_8 => ?_)
        · refine lv_iconst (v := 0) hx hb d_PM_breakEndsPage_73 (by decide) ?_
          exact pz_iret hx hb hr rfl hlocks hK hP hD hS (Nat.le_of_ble_eq_true rfl) (Nat.le_of_ble_eq_true rfl) (c_no (by rw [hpv]; exact (if_neg hq2).trans (if_neg (i32_nlt c_8))) hfo) d_PM_breakEndsPage_74
        · refine lv_aload_n hx hb d_PM_breakEndsPage_44 rfl (lv_at hl 1 rfl) ?_
          refine pz_get (ci := 4) (C := "PageMaker") (T := T_PM) (N := 4) hx hb htb in_PM hown hK hP hp hfp rfl 3 (by decide) (htb _ tw_163) (fun _ h9 => h9) rfl d_PM_breakEndsPage_45 ?_
          refine lv_iload_n hx hb d_PM_breakEndsPage_48 rfl (lv_at hl 2 rfl) ?_
          refine lv_aload_n hx hb d_PM_breakEndsPage_49 rfl (lv_at hl 1 rfl) ?_
          refine pz_get (ci := 4) (C := "PageMaker") (T := T_PM) (N := 4) hx hb htb in_PM hown hK hP hp hfp rfl 3 (by decide) (htb _ tw_163) (fun _ h9 => h9) rfl d_PM_breakEndsPage_50 ?_
          refine pz_get (ci := 2) (C := "PageMaker$OpenPage") (T := T_OP) (N := 8) hx hb htb in_OP hown hK hP ho hfo rfl 0 (by decide) (htb _ tw_124) (fun _ h9 => h9) rfl d_PM_breakEndsPage_53 ?_
          refine pz_get (ci := 3) (C := "PageMaker$Totals") (T := T_TO) (N := 4) hx hb htb in_TO hown hK hP ht hft rfl 1 (by decide) (htb _ tw_104) (fun _ h9 => h9) rfl d_PM_breakEndsPage_56 ?_
          refine lv_aload_n hx hb d_PM_breakEndsPage_59 rfl (lv_at hl 0 rfl) ?_
          refine pz_get (ci := 8) (C := "PageMaker$Penalty") (T := T_PE) (N := 1) hx hb htb in_PE hown hK hP hxL hfx rfl 0 (by decide) (htb _ tw_599) (fun _ h9 => h9) rfl d_PM_breakEndsPage_60 ?_
          refine pz_ci (va_runV (As := [.int (nI (j + 1)), .long T.1, .int ia]) (rest := []) ⟨hx, hb, hml, hown, hts⟩ (c_OP_endsAtBreak l G L f _ op to sa fo P T F (nI (j + 1)) ia T.1 ho hfo ht hft hs9 hsa hr8 hfof) (cwV 3 hts (tb_V tw_414 tw_415 tw_416 tw_6 tw_417) rfl rfl rfl (by decide +kernel) ⟨(Nat.le_of_ble_eq_true rfl), (Nat.le_of_ble_eq_true rfl)⟩) (pz_preV (zz_ok _ _ _) hK hP hD hS hA hz (ci := 2) rfl rfl ho hfo) rfl rfl hl.1 rfl (lv_room (Nat.le_of_ble_eq_true rfl)) d_PM_breakEndsPage_63 ⟨(Nat.le_of_ble_eq_true rfl), (Nat.le_of_ble_eq_true rfl)⟩) hP hD hS hA (fun r9 L9 f9 H locs hw hP hD hS => ?_)
          have hlk : c_look P T F (j + 1) (.inr (.inr (.inr ia))) (c_prev its (j + 1)) = o_at P T F (nI (j + 1)) T.1 ia := by rw [hpv]; exact (if_neg hq2).trans (if_pos (i32_lt c_8))
          obtain ⟨hb9, h1, h0⟩ := hw
          rcases hb9 with ⟨rfl, hb9⟩ | ⟨rfl, hb9⟩
          · have e9 := Prod.mk.inj (h1 rfl)
            have eL9 : L9 = L := e9.1
            have ef9 := e9.2
            subst L9
            refine lv_if_eq (tgt := 73) hx hb d_PM_breakEndsPage_66 (by decide) (fun c0 => absurd c0 (by decide)) (fun _ => ?_)
            refine lv_iconst (v := 1) hx hb d_PM_breakEndsPage_69 (by decide) ?_
            refine lv_goto (tgt := 74) hx hb d_PM_breakEndsPage_70 (by decide) ?_
            exact pz_iret hx hb hr rfl hlocks hK hP hD hS (Nat.le_of_ble_eq_true rfl) (Nat.le_of_ble_eq_true rfl) ⟨Or.inl rfl, ⟨fun _ => by rw [hlk, o_at, if_pos hb9], fun _ => rfl⟩, by rw [hlk, o_at, if_pos hb9]; exact congrArg (Prod.mk L) ef9⟩ d_PM_breakEndsPage_74
          · have e9 := Prod.mk.inj (h0 rfl)
            have eL9 : L9 = L := e9.1
            have ef9 := e9.2
            subst L9
            refine lv_if_eq (tgt := 73) hx hb d_PM_breakEndsPage_66 (by decide) (fun _ => ?_) (fun c0 => absurd c0 (by decide))
            refine lv_iconst (v := 0) hx hb d_PM_breakEndsPage_73 (by decide) ?_
            exact pz_iret hx hb hr rfl hlocks hK hP hD hS (Nat.le_of_ble_eq_true rfl) (Nat.le_of_ble_eq_true rfl) ⟨Or.inr rfl, ⟨fun h => absurd h (by decide), fun h => by rw [hlk, o_at, if_neg hb9] at h; exact absurd h Bool.false_ne_true⟩, by rw [hlk, o_at, if_neg hb9]; exact congrArg (Prod.mk L) ef9⟩ d_PM_breakEndsPage_74
    · refine lv_if_ne (tgt := 22) hx hb d_PM_breakEndsPage_17 (by decide) (fun c0 => absurd c0 (by decide)) (fun _ => ?_)
      refine lv_iconst (v := 0) hx hb d_PM_breakEndsPage_20 (by decide) ?_
      have hpv : c_prev its k = none := c_prev_none (by omega) (fun h => hq4 (by rw [hxl]; exact h))
      exact pz_iret hx hb hr rfl hlocks hK hP hD hS (Nat.le_of_ble_eq_true rfl) (Nat.le_of_ble_eq_true rfl) (c_no (by rw [hpv]; exact if_neg hq2) hfo) d_PM_breakEndsPage_21
  · refine lv_if_eq (tgt := 20) hx hb d_PM_breakEndsPage_7 (by decide) (fun _ => ?_) (fun c0 => absurd c0 (by decide))
    refine lv_iconst (v := 0) hx hb d_PM_breakEndsPage_20 (by decide) ?_
    exact pz_iret hx hb hr rfl hlocks hK hP hD hS (Nat.le_of_ble_eq_true rfl) (Nat.le_of_ble_eq_true rfl) (c_no (if_pos (Decidable.not_not.mp hq2)) hfo) d_PM_breakEndsPage_21
end
section
/-! WHAT A PLACE DOES, in pure words; the representation under changes -/
/-- the number of a cell's kind -/
def tg (e : va_E) : Nat := match e with
  | .inr (k, _) => k
  | .inl (_, _, .inl _) => 100
  | .inl (_, _, .inr (.inl _)) => 101
  | .inl (_, _, .inr (.inr (.inl _))) => 102
  | .inl (_, _, .inr (.inr (.inr (.inl _)))) => 103
  | .inl (_, _, .inr (.inr (.inr (.inr _)))) => 104
theorem tg_ne {f : Nat → va_E} {a b i j : Nat} (ha : tg (f a) = i) (hb : tg (f b) = j) (h : i ≠ j) : a ≠ b := fun e => h (by rw [← ha, ← hb, e])
theorem tg_it (it : It) : 5 ≤ tg (itE it) ∧ tg (itE it) ≤ 8 := by
  rcases it with ⟨ia, ib⟩ | ⟨ia, ib, io, id9⟩ | ia | ia <;> exact ⟨Nat.le_of_ble_eq_true rfl, Nat.le_of_ble_eq_true rfl⟩
def op_0 : Op := ((-1), 0, (-1), 1073741823, 1073741823, (-1))
/-- takeIn: the open page's frame, itself, its totals -/
def c_take (P : Op) (T : Tt) (F F9 : Fr) (k : Nat) (it : It) : Fr × Op × Tt := if P.1 = (-1) then (match it with
    | .inl (a, b) => (F9, (nI k, (t_sp (k_top F9.2.1 a) T).1, P.2.2), t_add (.inl (a, b)) F9.2.2 (t_sp (k_top F9.2.1 a) T))
    | _ => (F, P, T)) else (F, (P.1, T.1, P.2.2), t_add it F.2.2 T)
/-- endOpenPage -/
def c_end (S : CS) (a b : Nat) : CS := (S.1, S.2.1, S.2.2.1 ++ [(S.2.2.2.1, g_set S.2.2.2.2.1 S.2.2.2.1.1 (t_list S.1 S.2.2.2.1 a b))], S.2.1, op_0, t_0)
/-- the look at the place k, the page behind it -/
def c_lk (S : CS) (k : Nat) (it : It) : Bool × Op := c_look S.2.2.2.2.1 S.2.2.2.2.2 S.2.2.2.1 k it (c_prev S.1 k)
def c_put (S : CS) (P : Op) : CS := (S.1, S.2.1, S.2.2.1, S.2.2.2.1, P, S.2.2.2.2.2)
def c_tk (S : CS) (k : Nat) (it : It) : CS := (S.1, S.2.1, S.2.2.1, c_take S.2.2.2.2.1 S.2.2.2.2.2 S.2.2.2.1 S.2.1 k it)
def cN (v : Int32) : Nat := v.toNatClampNeg
/-- one round of the loop at the place k -/
def c_step (S : CS) (k : Nat) (it : It) : CS × Nat := if (c_lk S k it).1 = true then (c_end (c_put S (c_lk S k it).2) (cN (c_lk S k it).2.1) (cN (c_lk S k it).2.2.2.1), cN (c_lk S k it).2.2.2.1) else (c_tk (c_put S (c_lk S k it).2) k it, k + 1)
/-- at most n rounds from the place k on -/
def c_run : Nat → CS → Nat → CS × Nat
  | 0, S, k => (S, k)
  | n + 1, S, k => match S.1[k]? with
    | none => (S, k)
    | some it => c_run n (c_step S k it).1 (c_step S k it).2
/-- a page may end -/
def c_eok (S : CS) : Prop := ∃ (a b : Nat) (b0 b1 : Int32), S.2.2.2.2.1.1 = nI a ∧ S.2.2.2.2.1.2.2.1 = nI b ∧ S.1[a]? = some (.inl (b0, b1)) ∧ a ≤ b ∧ b ≤ S.1.length ∧ S.2.2.1.length < 512
def c_ok : Nat → CS → Nat → Prop
  | 0, _, _ => True
  | n + 1, S, k => match S.1[k]? with
    | none => True
    | some it => ((c_lk S k it).1 = true → c_eok (c_put S (c_lk S k it).2)) ∧ c_ok n (c_step S k it).1 (c_step S k it).2
theorem xr_keep {L L1 : List Nat} {f f1 : Nat → va_E} {xs : List Nat} {its : List It} (h : XR L f xs its) (hL : ∀ z, z ∈ L → z ∈ L1) (hk : ∀ z, z ∈ L → 5 ≤ tg (f z) → tg (f z) ≤ 8 → f1 z = f z) : XR L1 f1 xs its := by
  refine ⟨h.1, fun i x it h1 h2 => ?_⟩
  obtain ⟨h3, h4, h5⟩ := h.2 i x it h1 h2
  have h6 := tg_it it
  rw [← h4] at h6
  exact ⟨hL _ h3, (hk x h3 h6.1 h6.2).trans h4, h5⟩
theorem yr_keep {L L1 : List Nat} {f f1 : Nat → va_E} {ys : List Nat} {pgs : List (Fr × Pg)} (h : YR L f ys pgs) (hL : ∀ z, z ∈ L → z ∈ L1) (hk : ∀ z, z ∈ L → tg (f z) = 9 ∨ tg (f z) = 1 → f1 z = f z) : YR L1 f1 ys pgs := by
  refine ⟨h.1, fun i y pg h1 h2 => ?_⟩
  obtain ⟨h3, z, h4, h5, h6⟩ := h.2 i y pg h1 h2
  exact ⟨hL _ h3, z, hL _ h4, (hk z h4 (Or.inr (by rw [h5]; rfl))).trans h5, (hk y h3 (Or.inl (by rw [h6]; rfl))).trans h6⟩
theorem lr_tg {G : gG} {L : List Nat} {f : Nat → va_E} {al d : Nat} {xs : List Nat} (h : LR G L f al d xs) : al ∈ L ∧ tg (f al) = 0 := by
  obtain ⟨mo, h1, h2, -⟩ := h
  exact ⟨h1, by rw [h2]; rfl⟩
theorem lr_keep2 {G : gG} {L L1 : List Nat} {f f1 : Nat → va_E} {al d : Nat} {xs : List Nat} (h : LR G L f al d xs) (hL : ∀ z, z ∈ L → z ∈ L1) (ha : f1 al = f al) (hd : xs ≠ [] → d ∈ L → tg (f d) = 104 → f1 d = f d) : LR G L1 f1 al d xs := by
  obtain ⟨mo, h1, h2, h3⟩ := h
  refine ⟨mo, hL _ h1, ha.trans h2, ?_⟩
  rcases h3 with h3 | ⟨hne, h3, cap, a, h4, h5⟩
  · exact Or.inl h3
  · exact Or.inr ⟨hne, hL _ h3, cap, a, (hd hne h3 (by rw [h4]; rfl)).trans h4, h5⟩
/-- the open page and its totals change -/
theorem rx_upd {G : gG} {L : List Nat} {f f1 : Nat → va_E} {pm al ad el ed fr op to sa fo fo1 : Nat} {xs ys : List Nat} {S : CS} {F1 : Fr} {P1 : Op} {T1 : Tt} (h : RX G L f pm al ad el ed fr op to sa fo xs ys S) (h1 : f1 op = opE to fo1 P1) (h2 : f1 to = toE sa T1) (h3 : f1 sa = saE G T1) (h4 : (fo1 = fo ∧ F1 = S.2.2.2.1) ∨ (fo1 = fr ∧ F1 = S.2.1)) (hk : ∀ z, z ≠ op → z ≠ to → z ≠ sa → f1 z = f z) : RX G L f1 pm al ad el ed fr op to sa fo1 xs ys (S.1, S.2.1, S.2.2.1, F1, P1, T1) := by
  obtain ⟨a1, a2, a3, a4, a5, a6, a7, a8, a9, b1, b2, b3, b4, b5, b6, b7, b8, b9⟩ := h
  have t1 : tg (f op) = 2 := by rw [b3]; rfl
  have t2 : tg (f to) = 3 := by rw [b5]; rfl
  have t3 : tg (f sa) = 101 := by rw [b7]; rfl
  have kp : ∀ z, tg (f z) ≠ 2 → tg (f z) ≠ 3 → tg (f z) ≠ 101 → f1 z = f z := fun z q1 q2 q3 => hk z (tg_ne rfl t1 q1) (tg_ne rfl t2 q2) (tg_ne rfl t3 q3)
  have kp2 : ∀ z j, tg (f z) = j → j ≠ 2 → j ≠ 3 → j ≠ 101 → f1 z = f z := fun z j e q1 q2 q3 => kp z (by rw [e]; exact q1) (by rw [e]; exact q2) (by rw [e]; exact q3)
  have hfr : f1 fr = frE S.2.1 := (kp2 fr 1 (by rw [b1]; rfl) (by decide) (by decide) (by decide)).trans b1
  refine ⟨a1, (kp2 pm 4 (by rw [a2]; rfl) (by decide) (by decide) (by decide)).trans a2, lr_keep2 a3 (fun _ h => h) (kp2 al 0 (lr_tg a3).2 (by decide) (by decide) (by decide)) (fun _ _ h => kp2 ad 104 h (by decide) (by decide) (by decide)), lr_keep2 a4 (fun _ h => h) (kp2 el 0 (lr_tg a4).2 (by decide) (by decide) (by decide)) (fun _ _ h => kp2 ed 104 h (by decide) (by decide) (by decide)), a5, a6, xr_keep a7 (fun _ h => h) (fun z _ q1 q2 => kp z (by omega) (by omega) (by omega)), yr_keep a8 (fun _ h => h) (fun z _ q => kp z (by omega) (by omega) (by omega)), a9, hfr, b2, h1, b4, h2, b6, h3, ?_, ?_⟩
  · rcases h4 with ⟨rfl, -⟩ | ⟨rfl, -⟩
    · exact b8
    · exact a9
  · rcases h4 with ⟨rfl, rfl⟩ | ⟨rfl, rfl⟩
    · exact (kp2 _ 1 (by rw [b9]; rfl) (by decide) (by decide) (by decide)).trans b9
    · exact hfr
end
section
/-! PageMaker: takeIn, endOpenPage, lookFrom -/
theorem yr_el {L : List Nat} {f : Nat → va_E} {ys : List Nat} {pgs : List (Fr × Pg)} (h : YR L f ys pgs) {i y : Nat} (hy : ys[i]? = some y) : elOK L f y := by
  obtain ⟨h1, h2⟩ := h
  have hi : i < ys.length := (List.getElem?_eq_some_iff.mp hy).1
  obtain ⟨h3, z, h4, h5, h6⟩ := h2 i y _ hy (List.getElem?_eq_getElem (by omega))
  exact ⟨h3, _, _, h6, by decide⟩
theorem rz_sub {f : Nat → va_E} {G : gG} {L L1 : List Nat} {d d1 : Nat} {ys : List Nat} (h : (ys ≠ [] ∧ d1 = d ∧ d ∈ L ∧ L1 = L ∧ ∃ (cap : Nat) (a : Nat → Option Nat), f d = .inl (cO G, cap, .inr (.inr (.inr (.inr a))))) ∨ (d1 ∉ L ∧ L1 = L ++ [d1])) : ∀ z, z ∈ L → z ∈ L1 := by
  intro z hz
  rcases h with ⟨-, -, -, rfl, -⟩ | ⟨-, rfl⟩
  · exact hz
  · exact List.mem_append_left _ hz
theorem rz_nd {f : Nat → va_E} {G : gG} {L L1 : List Nat} {d d1 z : Nat} {ys : List Nat} (h : (ys ≠ [] ∧ d1 = d ∧ d ∈ L ∧ L1 = L ∧ ∃ (cap : Nat) (a : Nat → Option Nat), f d = .inl (cO G, cap, .inr (.inr (.inr (.inr a))))) ∨ (d1 ∉ L ∧ L1 = L ++ [d1])) (hz : z ∈ L) (ht : tg (f z) ≠ 104) : z ≠ d1 := by
  rcases h with ⟨-, rfl, -, -, cap, a, h⟩ | ⟨h, -⟩
  · exact tg_ne rfl (by rw [h]; rfl) ht
  · exact Ne.symm (pz_nef h hz)
/-- the other list keeps what it holds when one is added to -/
theorem rz_al {G : gG} {L L2 L4 L6 : List Nat} {f f3 f4 f7 : Nat → va_E} {al ad el ed d4 : Nat} {xs ys : List Nat} (hdd : xs ≠ [] → ys ≠ [] → ad ≠ ed) (h_al : LR G L f al ad xs) (h_el : LR G L f el ed ys) (h_el3 : LR G L2 f3 el ed ys) (hne9 : al ≠ el) (hd4 : (ys ≠ [] ∧ d4 = ed ∧ ed ∈ L2 ∧ L4 = L2 ∧ ∃ (cap : Nat) (a : Nat → Option Nat), f3 ed = .inl (cO G, cap, .inr (.inr (.inr (.inr a))))) ∨ (d4 ∉ L2 ∧ L4 = L2 ++ [d4])) (hsub2 : ∀ z, z ∈ L → z ∈ L2) (hsub7 : ∀ z, z ∈ L → z ∈ L6) (hold3 : ∀ z, z ∈ L → f3 z = f z) (hk4 : ∀ z, z ≠ el → z ≠ d4 → f4 z = f3 z) (h7 : ∀ z, z ∈ L → tg (f z) ≠ 4 → f7 z = f4 z) : LR G L6 f7 al ad xs := by
  refine lr_keep2 h_al hsub7 ?_ ?_
  · have t := lr_tg h_al
    exact (h7 _ t.1 (by rw [t.2]; decide)).trans ((hk4 _ hne9 (rz_nd hd4 (hsub2 _ t.1) (by rw [hold3 _ t.1, t.2]; decide))).trans (hold3 _ t.1))
  · intro hxs hd ht
    have h1 : ad ≠ el := tg_ne ht (lr_tg h_el).2 (by decide)
    have h2 : ad ≠ d4 := by
      rcases hd4 with ⟨hys, rfl, -⟩ | ⟨h, -⟩
      · exact hdd hxs hys
      · exact Ne.symm (pz_nef h (hsub2 _ hd))
    exact (h7 _ hd (by rw [ht]; decide)).trans ((hk4 _ h1 h2).trans (hold3 _ hd))
theorem rz_dd {G : gG} {L L2 L4 : List Nat} {f f3 : Nat → va_E} {al ad ed d4 q : Nat} {xs ys : List Nat} (hdd : xs ≠ [] → ys ≠ [] → ad ≠ ed) (h_al : LR G L f al ad xs) (hd4 : (ys ≠ [] ∧ d4 = ed ∧ ed ∈ L2 ∧ L4 = L2 ∧ ∃ (cap : Nat) (a : Nat → Option Nat), f3 ed = .inl (cO G, cap, .inr (.inr (.inr (.inr a))))) ∨ (d4 ∉ L2 ∧ L4 = L2 ++ [d4])) (hsub2 : ∀ z, z ∈ L → z ∈ L2) : xs ≠ [] → ys ++ [q] ≠ [] → ad ≠ d4 := by
  intro hxs _
  rcases hd4 with ⟨hys, rfl, -⟩ | ⟨h, -⟩
  · exact hdd hxs hys
  · obtain ⟨mo, h1, h2, h3⟩ := h_al
    rcases h3 with ⟨h3, -⟩ | ⟨-, h3, -⟩
    · exact absurd h3 hxs
    · exact Ne.symm (pz_nef h (hsub2 _ h3))
theorem yr_snoc {L : List Nat} {f : Nat → va_E} {ys : List Nat} {pgs : List (Fr × Pg)} {q z : Nat} {F : Fr} {g : Pg} (h : YR L f ys pgs) (hq : q ∈ L) (hz : z ∈ L) (hfz : f z = frE F) (hfq : f q = pgE z g) : YR L f (ys ++ [q]) (pgs ++ [(F, g)]) := by
  refine ⟨by rw [List.length_append, List.length_append, h.1]; rfl, fun i y pg h1 h2 => ?_⟩
  by_cases hi : i < ys.length
  · rw [List.getElem?_append_left hi] at h1
    rw [List.getElem?_append_left (by rw [← h.1]; exact hi)] at h2
    exact h.2 i y pg h1 h2
  · have hl : i < (ys ++ [q]).length := (List.getElem?_eq_some_iff.mp h1).1
    rw [List.length_append, List.length_singleton] at hl
    have e : i = ys.length := by omega
    subst e
    rw [List.getElem?_append_right (Nat.le_refl _), Nat.sub_self] at h1
    rw [List.getElem?_append_right (by rw [h.1]; exact Nat.le_refl _), h.1, Nat.sub_self] at h2
    cases h1
    cases h2
    exact ⟨hq, z, hz, hfz, hfq⟩
theorem k_nitem {k n : Nat} (hk : k < 2 ^ 31) (hn : n < 2 ^ 31) (h : ¬ (0 ≤ nI k ∧ nI k < nI n)) : n ≤ k := by
  rcases Nat.lt_or_ge k n with h1 | h1
  · exact absurd ⟨nI_pos' hk, nI_lt h1 hn⟩ h
  · exact h1
theorem k_fuel {n : Nat} (hn : n + 1 ≤ 4004001) : ¬ (4004001 : Int32) ≤ nI (4004001 - (n + 1)) := by
  rw [show (4004001 : Int32) = nI 4004001 from rfl]
  exact nI_ge (by omega) (by omega)
theorem k_inc {n : Nat} (hn : n + 1 ≤ 4004001) : nI (4004001 - (n + 1)) + 1 = nI (4004001 - n) := by
  rw [show 4004001 - n = (4004001 - (n + 1)) + 1 by omega]
  exact nI_1 _
theorem k_rc {p0 n q : Nat} (h : n ≤ q) : 7 * (n - p0) + 0 ≤ 7 * (q - p0) := by omega
theorem k_rs {p0 n q : Nat} (h : n ≤ q) : 933 * (n - p0) + 0 ≤ 933 * (q - p0) := by omega
theorem k_room7 {p0 n q : Nat} (h0 : p0 ≤ n) (h : n + 1 ≤ q) : 7 * (n - p0) + 7 ≤ 7 * (q - p0) := by omega
theorem k_room9 {p0 n q : Nat} (h0 : p0 ≤ n) (h : n + 1 ≤ q) : 933 * (n - p0) + 933 ≤ 933 * (q - p0) := by omega
theorem c_step_mono (S : CS) (k : Nat) (it : It) : S.2.2.1.length ≤ (c_step S k it).1.2.2.1.length := by
  rw [c_step]
  split
  · exact Nat.le_trans (Nat.le_add_right _ _) (Nat.le_of_eq List.length_append.symm)
  · exact Nat.le_refl _
theorem c_run_mono (n : Nat) : ∀ (S : CS) (k : Nat), S.2.2.1.length ≤ (c_run n S k).1.2.2.1.length := by
  induction n with
  | zero => exact fun S k => Nat.le_refl _
  | succ n ih =>
    intro S k
    rw [c_run.eq_def]
    simp only []
    cases S.1[k]? with
    | none => exact Nat.le_refl _
    | some it => exact Nat.le_trans (c_step_mono S k it) (ih _ _)
theorem cN_nI {n : Nat} (h : n < 2 ^ 31) : cN (nI n) = n := nI_clamp h
theorem c_step_end {S : CS} {k : Nat} {it : It} {a b : Nat} {b0 b1 : Int32} (h : (c_lk S k it).1 = true) (ha : (c_put S (c_lk S k it).2).2.2.2.2.1.1 = nI a) (hb : (c_put S (c_lk S k it).2).2.2.2.2.1.2.2.1 = nI b) (hx : (c_put S (c_lk S k it).2).1[a]? = some (.inl (b0, b1))) (hab : a ≤ b) (hbn : b ≤ (c_put S (c_lk S k it).2).1.length) (hn : S.1.length ≤ 512) : c_step S k it = (c_end (c_put S (c_lk S k it).2) a b, b) := by
  have hbn : b ≤ S.1.length := hbn
  have e1 : cN (c_lk S k it).2.1 = a := by rw [show (c_lk S k it).2.1 = nI a from ha]; exact cN_nI (by omega)
  have e2 : cN (c_lk S k it).2.2.2.1 = b := by rw [show (c_lk S k it).2.2.2.1 = nI b from hb]; exact cN_nI (by omega)
  rw [c_step, if_pos h, e1, e2]
/-- breakEndsPage over the representation -/
theorem r_PM_break (l : Launch) (G : gG) (L : List Nat) (f : Nat → va_E) (sz : Nat) (pm al ad el ed fr op to sa fo : Nat) (xs ys : List Nat) (its : List It) (F9 : Fr) (pgs : List (Fr × Pg)) (F : Fr) (P : Op) (T : Tt) (k x : Nat) (it : It) (hR : RX G L f pm al ad el ed fr op to sa fo xs ys (its, F9, pgs, F, P, T)) (hk : k < its.length) (hx9 : xs[k]? = some x) (hi9 : its[k]? = some it) (hn5 : its.length ≤ 512) : mI l y_PM_breakEndsPage w_PM_breakEndsPage ({ frames := 3, cells := 0, slots := 0, locals := 73 }) G L f sz [.ref pm, .int (nI k), .ref x] 0 0 (fun r u => (r = 1 ∨ r = 0) ∧ (r = 1 ↔ (c_lk (its, F9, pgs, F, P, T) k it).1 = true) ∧ u.1 = L ∧ RX G L u.2 pm al ad el ed fr op to sa fo xs ys (c_put (its, F9, pgs, F, P, T) (c_lk (its, F9, pgs, F, P, T) k it).2)) := by
  obtain ⟨hp, hfp, h_al, h_el, hne9, hdd, hX, hY, hr9, hfr, ho, hfo, ht, hft, hs9, hsa, hr8, hfof⟩ := id hR
  refine mI_mono (c_PM_breakEndsPage l G L f sz pm al ad el ed fr op to sa fo xs its F F9 P T k x it hp hfp h_al hX hr9 hfr ho hfo ht hft hs9 hsa hr8 hfof hk hx9 hi9 hn5) (fun r u hu => ?_)
  obtain ⟨h1, h2, rfl⟩ := hu
  refine ⟨h1, h2, rfl, rx_upd hR (va_up_self _ _ _) ?_ ?_ (Or.inl ⟨rfl, rfl⟩) (fun z z1 _ _ => va_up_ne _ _ z1)⟩
  · exact (va_up_ne _ _ (pz_nec hft hfo (by decide))).trans hft
  · exact (va_up_ne _ _ (pz_nea hsa hfo)).trans hsa
set_option maxHeartbeats 4000000 in
set_option maxRecDepth 100000 in
/-- takeIn(k, x) -/
theorem c_PM_takeIn (l : Launch) (G : gG) (L : List Nat) (f : Nat → va_E) (sz : Nat) (pm al ad el ed fr op to sa fo : Nat) (xs ys : List Nat) (its : List It) (F9 : Fr) (pgs : List (Fr × Pg)) (F : Fr) (P : Op) (T : Tt) (k x : Nat) (it : It) (hR : RX G L f pm al ad el ed fr op to sa fo xs ys (its, F9, pgs, F, P, T)) (hx9 : xs[k]? = some x) (hi9 : its[k]? = some it) : mV l y_PM_takeIn w_PM_takeIn ({ frames := 4, cells := 0, slots := 0, locals := 106 }) G L f sz [.ref pm, .int (nI k), .ref x] 0 0 (fun u => u.1 = L ∧ ∃ fo1, RX G L u.2 pm al ad el ed fr op to sa fo1 xs ys (c_tk (its, F9, pgs, F, P, T) k it)) := by
  refine pz_met (cc := prog_1_method_21_code) (maxL := 4) (ret := none) (by decide) rfl (Nat.le_of_ble_eq_true rfl) ?_
  intro p e s m below meth c ls hx hb hr hml hts hown hlocks hin hsz hK hP hD hS hA hz hl
  have htb : ∀ w ∈ TB, w.before _ s = true := fun w h => hts w (List.mem_cons_of_mem _ h)
  have hl : lv_has ls 4 [(0, .ref pm), (1, .int (nI k)), (2, .ref x)] := hl
  obtain ⟨hp, hfp, h_al, h_el, hne9, hdd, hX, hY, hr9, hfr, ho, hfo, ht, hft, hs9, hsa, hr8, hfof⟩ := id hR
  have hX : XR L f xs its := hX
  have hY : YR L f ys pgs := hY
  have hfr : f fr = frE F9 := hfr
  have hfo : f op = opE to fo P := hfo
  have hft : f to = toE sa T := hft
  have hsa : f sa = saE G T := hsa
  have hfof : f fo = frE F := hfof
  obtain ⟨mo_al, hm_al, hc_al, -⟩ := id h_al
  obtain ⟨hxL, hfx, hok⟩ := hX.2 k x it hx9 hi9
  refine lv_aload_n hx hb d_PM_takeIn_0 rfl (lv_at hl 0 rfl) ?_
  refine pz_get (ci := 4) (C := "PageMaker") (T := T_PM) (N := 4) hx hb htb in_PM hown hK hP hp hfp rfl 3 (by decide) (htb _ tw_163) (fun _ h9 => h9) rfl d_PM_takeIn_1 ?_
  refine vp_callSi (va_Run.run (va_runV (As := []) (rest := []) ⟨hx, hb, hml, hown, hts⟩ (c_OP_hasBegun l G L f _ op to fo P.1 P.2.2.1 P.2.2.2.1 P.2.2.2.2.1 P.2.2.2.2.2 P.2.1 ho hfo) (cwV 0 hts (tb_V tw_409 tw_410 tw_411 tw_6 tw_412) rfl rfl rfl (by decide +kernel) ⟨(Nat.le_of_ble_eq_true rfl), (Nat.le_of_ble_eq_true rfl)⟩) (pz_preV (zz_ok _ _ _) hK hP hD hS hA hz (ci := 2) rfl rfl ho hfo) rfl rfl hl.1 rfl (lv_room (Nat.le_of_ble_eq_true rfl)) d_PM_takeIn_4 ⟨(Nat.le_of_ble_eq_true rfl), (Nat.le_of_ble_eq_true rfl)⟩)) (fun r1 hw => ?_)
  rcases (show k_b (¬ P.1 = (-1)) r1 from hw) with ⟨rfl, hq2⟩ | ⟨rfl, hq2⟩
  · refine lv_if_eq (tgt := 21) hx hb d_PM_takeIn_7 (by decide) (fun c0 => absurd c0 (by decide)) (fun _ => ?_)
    refine lv_aload_n hx hb d_PM_takeIn_10 rfl (lv_at hl 0 rfl) ?_
    refine pz_get (ci := 4) (C := "PageMaker") (T := T_PM) (N := 4) hx hb htb in_PM hown hK hP hp hfp rfl 3 (by decide) (htb _ tw_163) (fun _ h9 => h9) rfl d_PM_takeIn_11 ?_
    refine lv_aload_n hx hb d_PM_takeIn_14 rfl (lv_at hl 2 rfl) ?_
    refine pz_cv (va_runV (As := [.ref x]) (rest := []) ⟨hx, hb, hml, hown, hts⟩ (c_OP_add l G L f _ op to sa fo x P T F it ho hfo ht hft hs9 hsa hr8 hfof hxL hfx hok) (cwV 1 hts (tb_V tw_529 tw_530 tw_531 tw_6 tw_532) rfl rfl rfl (by decide +kernel) ⟨(Nat.le_of_ble_eq_true rfl), (Nat.le_of_ble_eq_true rfl)⟩) (pz_preV (zz_ok _ _ _) hK hP hD hS hA hz (ci := 2) rfl rfl ho hfo) rfl rfl hl.1 rfl (lv_room (Nat.le_of_ble_eq_true rfl)) d_PM_takeIn_15 ⟨(Nat.le_of_ble_eq_true rfl), (Nat.le_of_ble_eq_true rfl)⟩) hP hD hS hA (fun L4 f3 H locs hw hP hD hS => ?_)
    have ef3 : f3 = va_up (va_up (va_up (f) op (opE to fo (P.1, T.1, P.2.2))) to (toE sa (t_add it F.2.2 T))) sa (saE G (t_add it F.2.2 T)) := (Prod.mk.inj hw).2
    have eL4 : L4 = L := (Prod.mk.inj hw).1
    subst L4
    obtain ⟨f5, ef5⟩ : ∃ y, y = va_up f op (opE to fo (P.1, T.1, P.2.2)) := ⟨_, rfl⟩
    rw [← ef5] at ef3
    obtain ⟨f6, ef6⟩ : ∃ y, y = va_up f5 to (toE sa (t_add it F.2.2 T)) := ⟨_, rfl⟩
    rw [← ef6] at ef3
    refine lv_goto (tgt := 46) hx hb d_PM_takeIn_18 (by decide) ?_
    have ez : ∀ z, z ≠ op → z ≠ to → z ≠ sa → f3 z = f z := fun z z1 z2 z3 => by rw [ef3, va_up_ne _ _ z3, ef6, va_up_ne _ _ z2, ef5, va_up_ne _ _ z1]
    have e1 : f3 op = opE to fo (P.1, T.1, P.2.2) := by rw [ef3, va_up_ne _ _ (Ne.symm (pz_nea hsa hfo)), ef6, va_up_ne _ _ (Ne.symm (pz_nec hft hfo (by decide))), ef5]; exact va_up_self _ _ _
    have e2 : f3 to = toE sa (t_add it F.2.2 T) := by rw [ef3, va_up_ne _ _ (Ne.symm (pz_nea hsa hft)), ef6]; exact va_up_self _ _ _
    have e3 : f3 sa = saE G (t_add it F.2.2 T) := by rw [ef3]; exact va_up_self _ _ _
    exact pz_vret hx hb hr hlocks hK hP hD hS (Nat.le_of_ble_eq_true rfl) (Nat.le_of_ble_eq_true rfl) ⟨rfl, fo, by rw [c_tk, show c_take P T F F9 k _ = _ from if_neg hq2]; exact rx_upd hR e1 e2 e3 (Or.inl ⟨rfl, rfl⟩) ez⟩ d_PM_takeIn_46
  · refine lv_if_eq (tgt := 21) hx hb d_PM_takeIn_7 (by decide) (fun _ => ?_) (fun c0 => absurd c0 (by decide))
    refine lv_aload_n hx hb d_PM_takeIn_21 rfl (lv_at hl 2 rfl) ?_
    rcases it with ⟨ia, ib⟩ | ⟨ia, ib, io, id9⟩ | ia | ia
    · refine va_instE hx hb hown (htb _ tw_298) (pz_recv hK hP (ci := 5) rfl hxL hfx) d_PM_takeIn_22 ?_
      refine lv_if_eq (tgt := 46) hx hb d_PM_takeIn_25 (by decide) (fun c0 => absurd c0 (by decide)) (fun _ => ?_)
      refine lv_aload_n hx hb d_PM_takeIn_28 rfl (lv_at hl 2 rfl) ?_
      refine va_castE hx hb hown (htb _ tw_298) (pz_recv hK hP (ci := 5) rfl hxL hfx) d_PM_takeIn_29 ?_
      refine lv_astore_n (lv' := [(3, .ref x), (0, .ref pm), (1, .int (nI k)), (2, .ref x)]) hx hb d_PM_takeIn_32 rfl hl (by decide) rfl (fun ls hl => ?_)
      refine lv_aload_n hx hb d_PM_takeIn_33 rfl (lv_at hl 1 rfl) ?_
      refine pz_get (ci := 4) (C := "PageMaker") (T := T_PM) (N := 4) hx hb htb in_PM hown hK hP hp hfp rfl 3 (by decide) (htb _ tw_163) (fun _ h9 => h9) rfl d_PM_takeIn_34 ?_
      refine lv_iload_n hx hb d_PM_takeIn_37 rfl (lv_at hl 2 rfl) ?_
      refine lv_aload_n hx hb d_PM_takeIn_38 rfl (lv_at hl 0 rfl) ?_
      refine lv_aload_n hx hb d_PM_takeIn_39 rfl (lv_at hl 1 rfl) ?_
      refine pz_get (ci := 4) (C := "PageMaker") (T := T_PM) (N := 4) hx hb htb in_PM hown hK hP hp hfp rfl 2 (by decide) (htb _ tw_162) (fun _ h9 => h9) rfl d_PM_takeIn_40 ?_
      refine pz_cv (va_runV (As := [.int (nI k), .ref x, .ref fr]) (rest := []) ⟨hx, hb, hml, hown, hts⟩ (c_OP_begin l G L f _ op to sa fo fr x P T F F9 (nI k) ia ib ho hfo ht hft hs9 hsa hr8 hfof hr9 hfr hxL hfx) (cwV 3 hts (tb_V tw_534 tw_535 tw_536 tw_6 tw_537) rfl rfl rfl (by decide +kernel) ⟨(Nat.le_of_ble_eq_true rfl), (Nat.le_of_ble_eq_true rfl)⟩) (pz_preV (zz_ok _ _ _) hK hP hD hS hA hz (ci := 2) rfl rfl ho hfo) rfl rfl hl.1 rfl (lv_room (Nat.le_of_ble_eq_true rfl)) d_PM_takeIn_43 ⟨(Nat.le_of_ble_eq_true rfl), (Nat.le_of_ble_eq_true rfl)⟩) hP hD hS hA (fun L8 f7 H locs hw hP hD hS => ?_)
      have ef7 : f7 = va_up (va_up (va_up (f) op (opE to fr (nI k, (t_sp (k_top F9.2.1 ia) T).1, P.2.2))) to (toE sa (t_add (.inl (ia, ib)) F9.2.2 (t_sp (k_top F9.2.1 ia) T)))) sa (saE G (t_add (.inl (ia, ib)) F9.2.2 (t_sp (k_top F9.2.1 ia) T))) := (Prod.mk.inj hw).2
      have eL8 : L8 = L := (Prod.mk.inj hw).1
      subst L8
      obtain ⟨f9, ef9⟩ : ∃ y, y = va_up f op (opE to fr (nI k, (t_sp (k_top F9.2.1 ia) T).1, P.2.2)) := ⟨_, rfl⟩
      rw [← ef9] at ef7
      obtain ⟨f10, ef10⟩ : ∃ y, y = va_up f9 to (toE sa (t_add (.inl (ia, ib)) F9.2.2 (t_sp (k_top F9.2.1 ia) T))) := ⟨_, rfl⟩
      rw [← ef10] at ef7
      have ez : ∀ z, z ≠ op → z ≠ to → z ≠ sa → f7 z = f z := fun z z1 z2 z3 => by rw [ef7, va_up_ne _ _ z3, ef10, va_up_ne _ _ z2, ef9, va_up_ne _ _ z1]
      have e1 : f7 op = opE to fr (nI k, (t_sp (k_top F9.2.1 ia) T).1, P.2.2) := by rw [ef7, va_up_ne _ _ (Ne.symm (pz_nea hsa hfo)), ef10, va_up_ne _ _ (Ne.symm (pz_nec hft hfo (by decide))), ef9]; exact va_up_self _ _ _
      have e2 : f7 to = toE sa (t_add (.inl (ia, ib)) F9.2.2 (t_sp (k_top F9.2.1 ia) T)) := by rw [ef7, va_up_ne _ _ (Ne.symm (pz_nea hsa hft)), ef10]; exact va_up_self _ _ _
      have e3 : f7 sa = saE G (t_add (.inl (ia, ib)) F9.2.2 (t_sp (k_top F9.2.1 ia) T)) := by rw [ef7]; exact va_up_self _ _ _
      exact pz_vret hx hb hr hlocks hK hP hD hS (Nat.le_of_ble_eq_true rfl) (Nat.le_of_ble_eq_true rfl) ⟨rfl, fr, by rw [c_tk, show c_take P T F F9 k _ = _ from if_pos (Decidable.not_not.mp hq2)]; exact rx_upd hR e1 e2 e3 (Or.inr ⟨rfl, rfl⟩) ez⟩ d_PM_takeIn_46
    · refine va_instNo (C := "PageMaker$Glue") hx hb hown (htb _ tw_298) (hz.2.1 ("PageMaker$Glue", "PageMaker$Box") (by decide +kernel)) (pz_recv hK hP (ci := 6) rfl hxL hfx) d_PM_takeIn_22 ?_
      refine lv_if_eq (tgt := 46) hx hb d_PM_takeIn_25 (by decide) (fun _ => ?_) (fun c0 => absurd c0 (by decide))
      exact pz_vret hx hb hr hlocks hK hP hD hS (Nat.le_of_ble_eq_true rfl) (Nat.le_of_ble_eq_true rfl) ⟨rfl, fo, by rw [c_tk, show c_take P T F F9 k _ = _ from if_pos (Decidable.not_not.mp hq2)]; exact hR⟩ d_PM_takeIn_46
    · refine va_instNo (C := "PageMaker$Kern") hx hb hown (htb _ tw_298) (hz.2.1 ("PageMaker$Kern", "PageMaker$Box") (by decide +kernel)) (pz_recv hK hP (ci := 7) rfl hxL hfx) d_PM_takeIn_22 ?_
      refine lv_if_eq (tgt := 46) hx hb d_PM_takeIn_25 (by decide) (fun _ => ?_) (fun c0 => absurd c0 (by decide))
      exact pz_vret hx hb hr hlocks hK hP hD hS (Nat.le_of_ble_eq_true rfl) (Nat.le_of_ble_eq_true rfl) ⟨rfl, fo, by rw [c_tk, show c_take P T F F9 k _ = _ from if_pos (Decidable.not_not.mp hq2)]; exact hR⟩ d_PM_takeIn_46
    · refine va_instNo (C := "PageMaker$Penalty") hx hb hown (htb _ tw_298) (hz.2.1 ("PageMaker$Penalty", "PageMaker$Box") (by decide +kernel)) (pz_recv hK hP (ci := 8) rfl hxL hfx) d_PM_takeIn_22 ?_
      refine lv_if_eq (tgt := 46) hx hb d_PM_takeIn_25 (by decide) (fun _ => ?_) (fun c0 => absurd c0 (by decide))
      exact pz_vret hx hb hr hlocks hK hP hD hS (Nat.le_of_ble_eq_true rfl) (Nat.le_of_ble_eq_true rfl) ⟨rfl, fo, by rw [c_tk, show c_take P T F F9 k _ = _ from if_pos (Decidable.not_not.mp hq2)]; exact hR⟩ d_PM_takeIn_46
set_option maxHeartbeats 4000000 in
set_option maxRecDepth 100000 in
/-- endOpenPage() -/
theorem c_PM_endOpenPage (l : Launch) (G : gG) (L : List Nat) (f : Nat → va_E) (sz : Nat) (pm al ad el ed fr op to sa fo : Nat) (xs ys : List Nat) (its : List It) (F9 : Fr) (pgs : List (Fr × Pg)) (F : Fr) (P : Op) (T : Tt) (a b : Nat) (b0 b1 : Int32) (hR : RX G L f pm al ad el ed fr op to sa fo xs ys (its, F9, pgs, F, P, T)) (hPa : P.1 = nI a) (hPb : P.2.2.1 = nI b) (hbx : its[a]? = some (.inl (b0, b1))) (hab : a ≤ b) (hbn : b ≤ its.length) (hn5 : its.length ≤ 512) (hpg : pgs.length < 512) : mI l y_PM_endOpenPage w_PM_endOpenPage ({ frames := 7, cells := 7, slots := 933, locals := 171 }) G L f sz [.ref pm] 7 933 (fun r u => r = nI b ∧ ∃ ed1 op1 to1 sa1 ys1, RX G u.1 u.2 pm al ad el ed1 fr op1 to1 sa1 fr xs ys1 (c_end (its, F9, pgs, F, P, T) a b)) := by
  refine pz_met (cc := prog_1_method_22_code) (maxL := 2) (ret := (some .int)) (by decide) rfl (Nat.le_of_ble_eq_true rfl) ?_
  intro p e s m below meth c ls hx hb hr hml hts hown hlocks hin hsz hK hP hD hS hA hz hl
  have htb : ∀ w ∈ TB, w.before _ s = true := fun w h => hts w (List.mem_cons_of_mem _ h)
  have hl : lv_has ls 2 [(0, .ref pm)] := hl
  obtain ⟨hp, hfp, h_al, h_el, hne9, hdd, hX, hY, hr9, hfr, ho, hfo, ht, hft, hs9, hsa, hr8, hfof⟩ := id hR
  have hX : XR L f xs its := hX
  have hY : YR L f ys pgs := hY
  have hfr : f fr = frE F9 := hfr
  have hfo : f op = opE to fo P := hfo
  have hft : f to = toE sa T := hft
  have hsa : f sa = saE G T := hsa
  have hfof : f fo = frE F := hfof
  obtain ⟨mo_al, hm_al, hc_al, -⟩ := id h_al
  obtain ⟨mo_el, hm_el, hc_el, -⟩ := id h_el
  have hyl : ys.length = pgs.length := hY.1
  have hfo1 : f op = .inr (2, [.ref to, .ref fo, .int (nI a), .long P.2.1, .int (nI b), .int P.2.2.2.1, .int P.2.2.2.2.1, .int P.2.2.2.2.2]) := by rw [hfo, opE, hPa, hPb]
  refine lv_aload_n hx hb d_PM_endOpenPage_0 rfl (lv_at hl 0 rfl) ?_
  refine pz_get (ci := 4) (C := "PageMaker") (T := T_PM) (N := 4) hx hb htb in_PM hown hK hP hp hfp rfl 3 (by decide) (htb _ tw_163) (fun _ h9 => h9) rfl d_PM_endOpenPage_1 ?_
  refine lv_astore_n (lv' := [(1, .ref op), (0, .ref pm)]) hx hb d_PM_endOpenPage_4 rfl hl (by decide) rfl (fun ls hl => ?_)
  refine lv_aload_n hx hb d_PM_endOpenPage_5 rfl (lv_at hl 1 rfl) ?_
  refine pz_get (ci := 4) (C := "PageMaker") (T := T_PM) (N := 4) hx hb htb in_PM hown hK hP hp hfp rfl 1 (by decide) (htb _ tw_161) (fun _ h9 => h9) rfl d_PM_endOpenPage_6 ?_
  refine pz_new (ci := 9) (fs := [.null, .int 0, .int 0, .int 0, .int 0, .int 0, .long 0, .int 0, .long 0]) (C := "PageMaker$EndedPage") (T := T_EP) (N := 9) hx hb htb in_EP ty_EP to_EP hown (htb _ tw_446) (htb _ tw_447) (htb _ tw_22) hK hP hD hS hA rfl (fun j hj => by rcases (show j = 0 ∨ j = 1 ∨ j = 2 ∨ j = 3 ∨ j = 4 ∨ j = 5 ∨ j = 6 ∨ j = 7 ∨ j = 8 by omega) with rfl | rfl | rfl | rfl | rfl | rfl | rfl | rfl | rfl <;> rfl) (Nat.le_of_ble_eq_true rfl) (Nat.le_of_ble_eq_true rfl) d_PM_endOpenPage_9 (fun q1 L2 f3 H hnq1 eL2 ef3 hP hD hS => ?_)
  subst L2
  refine lv_dup hx hb d_PM_endOpenPage_12 rfl ?_
  refine lv_aload_n hx hb d_PM_endOpenPage_13 rfl (lv_at hl 0 rfl) ?_
  refine lv_aload_n hx hb d_PM_endOpenPage_14 rfl (lv_at hl 1 rfl) ?_
  refine lv_aload_n hx hb d_PM_endOpenPage_15 rfl (lv_at hl 0 rfl) ?_
  have h_4 : f3 op = .inr (2, [.ref to, .ref fo, .int (nI a), .long P.2.1, .int (nI b), .int P.2.2.2.1, .int P.2.2.2.2.1, .int P.2.2.2.2.2]) := by rw [ef3, va_up_ne _ _ (Ne.symm (pz_nef hnq1 ho))]; exact hfo1
  refine pz_get (ci := 2) (C := "PageMaker$OpenPage") (T := T_OP) (N := 8) hx hb htb in_OP hown hK hP (List.mem_append_left _ ho) h_4 rfl 1 (by decide) (htb _ tw_127) (fun _ h9 => h9) rfl d_PM_endOpenPage_16 ?_
  refine lv_aload_n hx hb d_PM_endOpenPage_19 rfl (lv_at hl 0 rfl) ?_
  refine pz_get (ci := 2) (C := "PageMaker$OpenPage") (T := T_OP) (N := 8) hx hb htb in_OP hown hK hP (List.mem_append_left _ ho) h_4 rfl 2 (by decide) (htb _ tw_130) (fun _ h9 => h9) rfl d_PM_endOpenPage_20 ?_
  refine lv_aload_n hx hb d_PM_endOpenPage_23 rfl (lv_at hl 0 rfl) ?_
  refine pz_get (ci := 2) (C := "PageMaker$OpenPage") (T := T_OP) (N := 8) hx hb htb in_OP hown hK hP (List.mem_append_left _ ho) h_4 rfl 4 (by decide) (htb _ tw_135) (fun _ h9 => h9) rfl d_PM_endOpenPage_24 ?_
  have hsub1 : ∀ z, z ∈ L → z ∈ (L ++ [q1]) := fun z hz => List.mem_append_left _ hz
  have hold1 : ∀ z, z ∈ L → f3 z = f z := fun z hz => by rw [ef3]; exact va_up_ne _ _ (Ne.symm (pz_nef hnq1 hz))
  have h_al1 : LR G (L ++ [q1]) f3 al ad xs := lr_keep2 h_al hsub1 (hold1 _ (lr_tg h_al).1) (fun _ h _ => hold1 _ h)
  have hX1 : XR (L ++ [q1]) f3 xs its := xr_keep hX hsub1 (fun z hz _ _ => hold1 z hz)
  have h_5 : f3 pm = .inr (4, [.ref al, .ref el, .ref fr, .ref op]) := by rw [ef3, va_up_ne _ _ (Ne.symm (pz_nef hnq1 hp))]; exact hfp
  refine pz_cr (va_runV (As := [.ref fo, .int (nI a), .int (nI b)]) (rest := [.ref op, .ref q1, .ref q1, .ref el]) ⟨hx, hb, hml, hown, hts⟩ (c_PM_totalsOf l G (L ++ [q1]) f3 _ pm al ad el fr op fo a b xs its F b0 b1 (hsub1 _ hp) ((hold1 _ hp).trans hfp) h_al1 hX1 (hsub1 _ hr8) ((hold1 _ hr8).trans hfof) hab hbn hn5 hbx) (cwV 3 hts (tb_V tw_448 tw_450 tp_10 tw_1 tw_451) rfl rfl rfl (by decide +kernel) ⟨(Nat.le_of_ble_eq_true rfl), (Nat.le_of_ble_eq_true rfl)⟩) (pz_preV (zz_ok _ _ _) hK hP hD hS hA hz (ci := 4) rfl rfl (List.mem_append_left _ hp) h_5) rfl rfl hl.1 rfl (lv_room (Nat.le_of_ble_eq_true rfl)) d_PM_endOpenPage_27 ⟨(Nat.le_of_ble_eq_true rfl), (Nat.le_of_ble_eq_true rfl)⟩) hP hD hS hA (fun t2 L2 f2 H locs hw hP hD hS => ?_)
  obtain ⟨hnt2, sa2, hnsa2, hts2, eL2, hft2, hfs2, hk2⟩ := hw
  have eL2 : L2 = (L ++ [q1]) ++ [t2] ++ [sa2] := eL2
  subst L2
  have hft2 : f2 t2 = toE sa2 (t_list its F a b) := hft2
  have hfs2 : f2 sa2 = saE G (t_list its F a b) := hfs2
  have hk2 : ∀ z, z ≠ t2 → z ≠ sa2 → f2 z = f3 z := hk2
  have hsub2 : ∀ z, z ∈ L → z ∈ ((L ++ [q1]) ++ [t2] ++ [sa2]) := fun z hz => List.mem_append_left _ (List.mem_append_left _ (hsub1 z hz))
  have hold2 : ∀ z, z ∈ (L ++ [q1]) → f2 z = f3 z := fun z hz => hk2 z (Ne.symm (pz_nef hnt2 hz)) (Ne.symm (pz_nef hnsa2 hz))
  have hq2 : q1 ∈ ((L ++ [q1]) ++ [t2] ++ [sa2]) := List.mem_append_left _ (List.mem_append_left _ (l_in_new _ _))
  have ht2 : t2 ∈ ((L ++ [q1]) ++ [t2] ++ [sa2]) := List.mem_append_left _ (l_in_new _ _)
  have hs2 : sa2 ∈ ((L ++ [q1]) ++ [t2] ++ [sa2]) := l_in_new _ _
  have hfq2 : f2 q1 = .inr (9, [.null, .int 0, .int 0, .int 0, .int 0, .int 0, .long 0, .int 0, .long 0]) := (hold2 _ (l_in_new _ _)).trans (by rw [ef3]; exact va_up_self _ _ _)
  have hfo2 : f2 op = opE to fo P := (hold2 _ (hsub1 _ ho)).trans ((hold1 _ ho).trans hfo)
  have hff2 : f2 fo = frE F := (hold2 _ (hsub1 _ hr8)).trans ((hold1 _ hr8).trans hfof)
  refine pz_cv (va_runI (As := [.ref op, .ref t2]) (rest := [.ref q1, .ref el]) ⟨hx, hb, hml, hown, hts⟩ (c_EP_init l G ((L ++ [q1]) ++ [t2] ++ [sa2]) f2 _ q1 op t2 sa2 to fo P (t_list its F a b) (t_list its F a b) F 0 0 0 0 0 0 0 0 hq2 hfq2 (hsub2 _ ho) hfo2 ht2 hft2 hs2 hfs2 (hsub2 _ hr8) hff2) (cwI 2 hts (tb_good tw_485) rfl rfl rfl (htb _ tw_22) (htb _ tw_483) (htb _ tw_484) rfl (by decide +kernel) ⟨(Nat.le_of_ble_eq_true rfl), (Nat.le_of_ble_eq_true rfl)⟩) (pz_pre (zz_ok _ _ _) hK hP hD hS hA hz) rfl rfl hl.1 rfl (lv_room (Nat.le_of_ble_eq_true rfl)) d_PM_endOpenPage_30 ⟨(Nat.le_of_ble_eq_true rfl), (Nat.le_of_ble_eq_true rfl)⟩) hP hD hS hA (fun L7 f6 H locs hw hP hD hS => ?_)
  have ef6 : f6 = va_up (f2) q1 (pgE fo (g_set P F.1 (t_list its F a b))) := (Prod.mk.inj hw).2
  have eL7 : L7 = ((L ++ [q1]) ++ [t2] ++ [sa2]) := (Prod.mk.inj hw).1
  subst L7
  have hold3 : ∀ z, z ∈ L → f6 z = f z := fun z hz => by rw [ef6, va_up_ne _ _ (Ne.symm (pz_nef hnq1 hz))]; exact (hold2 z (hsub1 z hz)).trans (hold1 z hz)
  have hq3 : f6 q1 = pgE fo (g_set P F.1 (t_list its F a b)) := by rw [ef6]; exact va_up_self _ _ _
  have h_el3 : LR G ((L ++ [q1]) ++ [t2] ++ [sa2]) f6 el ed ys := lr_keep2 h_el hsub2 (hold3 _ (lr_tg h_el).1) (fun _ h _ => hold3 _ h)
  have hY3 : YR ((L ++ [q1]) ++ [t2] ++ [sa2]) f6 ys pgs := yr_keep hY hsub2 (fun z hz _ => hold3 z hz)
  refine pz_ci (va_runV (As := [.ref q1]) (rest := []) ⟨hx, hb, hml, hown, hts⟩ (al_add l G ((L ++ [q1]) ++ [t2] ++ [sa2]) f6 _ el ed ys q1 h_el3 (by omega) (fun i y hy => yr_el hY3 hy) ⟨hq2, _, _, hq3, by decide⟩) (cwV 1 hts (tb_V tw_320 tw_321 tw_322 tw_4 tw_323) rfl rfl rfl (by decide +kernel) ⟨(Nat.le_of_ble_eq_true rfl), (Nat.le_of_ble_eq_true rfl)⟩) (pz_preV (zz_ok _ _ _) hK hP hD hS hA hz (ci := 0) rfl rfl (hsub2 _ hm_el) ((hold3 _ hm_el).trans hc_el)) rfl rfl hl.1 rfl (lv_room (Nat.le_of_ble_eq_true rfl)) d_PM_endOpenPage_33 ⟨(Nat.le_of_ble_eq_true rfl), (Nat.le_of_ble_eq_true rfl)⟩) hP hD hS hA (fun r4 L4 f4 H locs hw hP hD hS => ?_)
  obtain ⟨-, d4, h_el4, hd4, hk4⟩ := hw
  have h_el4 : LR G L4 f4 el d4 (ys ++ [q1]) := h_el4
  have hk4 : ∀ z, z ≠ el → z ≠ d4 → f4 z = f6 z := hk4
  have hsub4 : ∀ z, z ∈ ((L ++ [q1]) ++ [t2] ++ [sa2]) → z ∈ L4 := rz_sub hd4
  have hold4 : ∀ z, z ∈ L → tg (f z) ≠ 0 → tg (f z) ≠ 104 → f4 z = f z := fun z hz z1 z2 => (hk4 z (tg_ne rfl (lr_tg h_el).2 z1) (rz_nd hd4 (hsub2 z hz) (by rw [hold3 z hz]; exact z2))).trans (hold3 z hz)
  have hq4 : f4 q1 = pgE fo (g_set P F.1 (t_list its F a b)) := (hk4 _ (tg_ne (by rw [hq3]; rfl) (lr_tg h_el3).2 (by decide : 9 ≠ 0)) (rz_nd hd4 hq2 (by rw [hq3]; exact (by decide : 9 ≠ 104)))).trans hq3
  have hfp4 : f4 pm = .inr (4, [.ref al, .ref el, .ref fr, .ref op]) := (hold4 _ hp (by rw [hfp]; exact (by decide : 4 ≠ 0)) (by rw [hfp]; exact (by decide : 4 ≠ 104))).trans hfp
  have hfr4 : f4 fr = frE F9 := (hold4 _ hr9 (by rw [hfr]; exact (by decide : 1 ≠ 0)) (by rw [hfr]; exact (by decide : 1 ≠ 104))).trans hfr
  have hfo4 : f4 op = .inr (2, [.ref to, .ref fo, .int (nI a), .long P.2.1, .int (nI b), .int P.2.2.2.1, .int P.2.2.2.2.1, .int P.2.2.2.2.2]) := (hold4 _ ho (by rw [hfo]; exact (by decide : 2 ≠ 0)) (by rw [hfo]; exact (by decide : 2 ≠ 104))).trans hfo1
  refine lv_pop hx hb d_PM_endOpenPage_36 rfl ?_
  refine lv_aload_n hx hb d_PM_endOpenPage_37 rfl (lv_at hl 1 rfl) ?_
  refine pz_new (ci := 2) (fs := [.null, .null, .int 0, .long 0, .int 0, .int 0, .int 0, .int 0]) (C := "PageMaker$OpenPage") (T := T_OP) (N := 8) hx hb htb in_OP ty_OP to_OP hown (htb _ tw_84) (htb _ tw_85) (htb _ tw_6) hK hP hD hS hA rfl (fun j hj => by rcases (show j = 0 ∨ j = 1 ∨ j = 2 ∨ j = 3 ∨ j = 4 ∨ j = 5 ∨ j = 6 ∨ j = 7 by omega) with rfl | rfl | rfl | rfl | rfl | rfl | rfl | rfl <;> rfl) (Nat.le_of_ble_eq_true rfl) (Nat.le_of_ble_eq_true rfl) d_PM_endOpenPage_38 (fun q8 L9 f10 H hnq8 eL9 ef10 hP hD hS => ?_)
  subst L9
  refine lv_dup hx hb d_PM_endOpenPage_41 rfl ?_
  refine lv_aload_n hx hb d_PM_endOpenPage_42 rfl (lv_at hl 1 rfl) ?_
  have h_11 : f10 pm = .inr (4, [.ref al, .ref el, .ref fr, .ref op]) := by rw [ef10, va_up_ne _ _ (Ne.symm (pz_nef hnq8 (hsub4 _ (hsub2 _ hp))))]; exact hfp4
  refine pz_get (ci := 4) (C := "PageMaker") (T := T_PM) (N := 4) hx hb htb in_PM hown hK hP (List.mem_append_left _ (hsub4 _ (hsub2 _ hp))) h_11 rfl 2 (by decide) (htb _ tw_162) (fun _ h9 => h9) rfl d_PM_endOpenPage_43 ?_
  have h_12 : f10 q8 = .inr (2, [.null, .null, .int 0, .long 0, .int 0, .int 0, .int 0, .int 0]) := by rw [ef10]; exact va_up_self _ _ _
  refine pz_cv (va_runI (As := [.ref fr]) (rest := [.ref q8, .ref pm]) ⟨hx, hb, hml, hown, hts⟩ (c_OP_init l G (L4 ++ [q8]) f10 _ q8 fr 0 0 0 0 0 0 (l_in_new _ _) h_12 (List.mem_append_left _ (hsub4 _ (hsub2 _ hr9)))) (cwI 1 hts (tb_good tw_88) rfl rfl rfl (htb _ tw_6) (htb _ tw_86) (htb _ tw_87) rfl (by decide +kernel) ⟨(Nat.le_of_ble_eq_true rfl), (Nat.le_of_ble_eq_true rfl)⟩) (pz_pre (zz_ok _ _ _) hK hP hD hS hA hz) rfl rfl hl.1 rfl (lv_room (Nat.le_of_ble_eq_true rfl)) d_PM_endOpenPage_46 ⟨(Nat.le_of_ble_eq_true rfl), (Nat.le_of_ble_eq_true rfl)⟩) hP hD hS hA (fun L6 f6 H locs hw hP hD hS => ?_)
  obtain ⟨to6, sa6, hnt6, hns6, hts6, hw⟩ := hw
  have eL6 : L6 = (L4 ++ [q8]) ++ [to6] ++ [sa6] := (Prod.mk.inj hw).1
  have ef6 : f6 = va_up (va_up (va_up f10 sa6 (saE G t_0)) to6 (toE sa6 t_0)) q8 (opE to6 fr op_0) := (Prod.mk.inj hw).2
  subst L6
  have hsub6 : ∀ z, z ∈ L4 → z ∈ ((L4 ++ [q8]) ++ [to6] ++ [sa6]) := fun z hz => List.mem_append_left _ (List.mem_append_left _ (List.mem_append_left _ hz))
  have hold6 : ∀ z, z ∈ L4 → f6 z = f4 z := fun z hz => by rw [ef6, va_up_ne _ _ (Ne.symm (pz_nef hnq8 hz)), va_up_ne _ _ (Ne.symm (pz_nef hnt6 (List.mem_append_left _ hz))), va_up_ne _ _ (Ne.symm (pz_nef hns6 (List.mem_append_left _ hz))), ef10, va_up_ne _ _ (Ne.symm (pz_nef hnq8 hz))]
  have ho6 : q8 ∈ ((L4 ++ [q8]) ++ [to6] ++ [sa6]) := List.mem_append_left _ (List.mem_append_left _ (l_in_new _ _))
  have hfo6 : f6 q8 = opE to6 fr op_0 := by rw [ef6]; exact va_up_self _ _ _
  have hto6 : f6 to6 = toE sa6 t_0 := by rw [ef6, va_up_ne _ _ (pz_nef hnt6 (l_in_new _ _))]; exact va_up_self _ _ _
  have hsa6 : f6 sa6 = saE G t_0 := by rw [ef6, va_up_ne _ _ (pz_nef hns6 (l_in_new _ _)), va_up_ne _ _ (Ne.symm hts6)]; exact va_up_self _ _ _
  have hfp6 : f6 pm = .inr (4, [.ref al, .ref el, .ref fr, .ref op]) := (hold6 _ (hsub4 _ (hsub2 _ hp))).trans hfp4
  have hfo7 : f6 op = .inr (2, [.ref to, .ref fo, .int (nI a), .long P.2.1, .int (nI b), .int P.2.2.2.1, .int P.2.2.2.2.1, .int P.2.2.2.2.2]) := (hold6 _ (hsub4 _ (hsub2 _ ho))).trans hfo4
  refine pz_put (ci := 4) (v := .ref q8) (ty := .object "PageMaker$OpenPage") (C := "PageMaker") (T := T_PM) (N := 4) hx hb htb in_PM ty_PM to_PM nm_PM hown hK hP hD hS (hsub6 _ (hsub4 _ (hsub2 _ hp))) hfp6 rfl 3 (by decide) (htb _ tw_163) (fun _ h9 => h9) rfl rfl rfl rfl (Nat.le_of_ble_eq_true rfl) d_PM_endOpenPage_49 (fun f13 H locs ef13 hP hD hS => ?_)
  have ef13 : f13 = va_up f6 pm (.inr (4, [.ref al, .ref el, .ref fr, .ref q8])) := ef13
  refine lv_aload_n hx hb d_PM_endOpenPage_52 rfl (lv_at hl 0 rfl) ?_
  have h_14 : f13 op = .inr (2, [.ref to, .ref fo, .int (nI a), .long P.2.1, .int (nI b), .int P.2.2.2.1, .int P.2.2.2.2.1, .int P.2.2.2.2.2]) := by rw [ef13, va_up_ne _ _ (pz_nec hfo7 hfp6 (by decide))]; exact hfo7
  refine pz_get (ci := 2) (C := "PageMaker$OpenPage") (T := T_OP) (N := 8) hx hb htb in_OP hown hK hP (hsub6 _ (hsub4 _ (hsub2 _ ho))) h_14 rfl 4 (by decide) (htb _ tw_135) (fun _ h9 => h9) rfl d_PM_endOpenPage_53 ?_
  have h7 : ∀ z, z ∈ L → tg (f z) ≠ 4 → f13 z = f6 z := fun z hz z1 => by rw [ef13]; exact va_up_ne _ _ (tg_ne rfl (show tg (f pm) = 4 by rw [hfp]; rfl) z1)
  have hold7 : ∀ z, z ∈ L → tg (f z) ≠ 0 → tg (f z) ≠ 104 → tg (f z) ≠ 4 → f13 z = f z := fun z hz z1 z2 z3 => (h7 z hz z3).trans ((hold6 z (hsub4 _ (hsub2 _ hz))).trans (hold4 z hz z1 z2))
  have hsub7 : ∀ z, z ∈ L → z ∈ ((L4 ++ [q8]) ++ [to6] ++ [sa6]) := fun z hz => hsub6 z (hsub4 z (hsub2 z hz))
  have h76 : ∀ z, z ≠ pm → f13 z = f6 z := fun z z1 => by rw [ef13]; exact va_up_ne _ _ z1
  have hal7 : LR G ((L4 ++ [q8]) ++ [to6] ++ [sa6]) f13 al ad xs := rz_al hdd h_al h_el h_el3 hne9 hd4 hsub2 hsub7 hold3 hk4 (fun z hz z1 => (h7 z hz z1).trans (hold6 z (hsub4 _ (hsub2 _ hz))))
  have hel7 : LR G ((L4 ++ [q8]) ++ [to6] ++ [sa6]) f13 el d4 (ys ++ [q1]) := lr_keep2 h_el4 hsub6 ((h7 _ (lr_tg h_el).1 (by rw [(lr_tg h_el).2]; decide)).trans (hold6 _ (lr_tg h_el4).1)) (fun _ hd ht9 => (h76 _ (fun e => absurd (ht9.symm.trans (by rw [e, hfp4]; rfl)) (by decide : 104 ≠ 4))).trans (hold6 _ hd))
  have hY7 : YR ((L4 ++ [q8]) ++ [to6] ++ [sa6]) f13 (ys ++ [q1]) (pgs ++ [(F, (g_set P F.1 (t_list its F a b)))]) := yr_snoc (yr_keep hY hsub7 (fun z hz z1 => hold7 z hz (by omega) (by omega) (by omega))) (hsub6 _ (hsub4 _ hq2)) (hsub7 _ hr8) ((hold7 _ hr8 (by rw [hfof]; exact (by decide : 1 ≠ 0)) (by rw [hfof]; exact (by decide : 1 ≠ 104)) (by rw [hfof]; exact (by decide : 1 ≠ 4))).trans hfof) ((h76 _ (tg_ne (show tg (f4 q1) = 9 by rw [hq4]; rfl) (show tg (f4 pm) = 4 by rw [hfp4]; rfl) (by decide))).trans ((hold6 _ (hsub4 _ hq2)).trans hq4))
  have hX7 : XR ((L4 ++ [q8]) ++ [to6] ++ [sa6]) f13 xs its := xr_keep hX hsub7 (fun z hz z1 z2 => hold7 z hz (by omega) (by omega) (by omega))
  have hfr7 : f13 fr = frE F9 := (hold7 _ hr9 (by rw [hfr]; exact (by decide : 1 ≠ 0)) (by rw [hfr]; exact (by decide : 1 ≠ 104)) (by rw [hfr]; exact (by decide : 1 ≠ 4))).trans hfr
  have hpm7 : f13 pm = .inr (4, [.ref al, .ref el, .ref fr, .ref q8]) := by rw [ef13]; exact va_up_self _ _ _
  have tp : tg (f6 pm) = 4 := by rw [hfp6]; rfl
  exact pz_iret hx hb hr rfl hlocks hK hP hD hS (Nat.le_of_ble_eq_true rfl) (Nat.le_of_ble_eq_true rfl) ⟨rfl, d4, q8, to6, sa6, _, ⟨hsub7 _ hp, hpm7, hal7, hel7, hne9, rz_dd hdd h_al hd4 hsub2, hX7, hY7, hsub7 _ hr9, hfr7, ho6, (h76 _ (tg_ne (show tg (f6 q8) = 2 by rw [hfo6]; rfl) tp (by decide))).trans hfo6, List.mem_append_left _ (l_in_new _ _), (h76 _ (tg_ne (show tg (f6 to6) = 3 by rw [hto6]; rfl) tp (by decide))).trans hto6, l_in_new _ _, (h76 _ (tg_ne (show tg (f6 sa6) = 101 by rw [hsa6]; rfl) tp (by decide))).trans hsa6, hsub7 _ hr9, hfr7⟩⟩ d_PM_endOpenPage_56
set_option maxHeartbeats 4000000 in
set_option maxRecDepth 100000 in
/-- lookFrom: its loop; n rounds may still come -/
theorem lp_lookFrom (l : Launch) (G : gG) (L : List Nat) (f : Nat → va_E) (sz : Nat) (pm al ad el fr k0 : Nat) (xs : List Nat) (its : List It) (F9 : Fr) (p0 : Nat) (SX : CS) {p : Program} {e : Env} {s : State} {m : MethodId} {below : List Frame} {meth : Method} {c : Code} (hx : p.tables.exec = Jvm.exec) (hb : c.code = prog_1_method_19_code) (hr : meth.sig.returnType = none) (hml : c.maxLocals = 5) (hts : ∀ w ∈ w_PM_lookFrom, w.before ([.ref pm, .int (nI k0)] : List Value).toArray s = true) (hown : s.vm.findClass "PageMaker" = some m.cls) (hlocks : meth.locks = false) (hK : va_K (gD G) cls9 (gT G) s) (hA : ∀ q, s.heap.size ≤ q → mA L f sz q) (hz : gZ G (mA L f sz) s s.heap) (hn5 : its.length ≤ 512) :
    ∀ (n : Nat) (S : CS) (k : Nat) (L1 : List Nat) (f1 : Nat → va_E) (H : Heap) (locs : List Loc) (ls : Array Slot) (op to sa fo ed : Nat) (ys : List Nat), n ≤ 4004001 → S.1 = its → S.2.1 = F9 → k ≤ its.length → p0 ≤ S.2.2.1.length → S.2.2.1.length ≤ 512 → c_ok n S k → (c_run n S k).1 = SX → RX G L1 f1 pm al ad el ed fr op to sa fo xs ys S → va_P (gD G) cls9 ([] ++ va_pl L1 f1) H → va_D (mA L f sz) ([] ++ va_pl L1 f1) → va_S (mA L f sz) s.heap H locs → lv_has ls 5 [(0, .ref pm), (2, .int (nI k)), (3, .int (nI (4004001 - n)))] →
      W p l e ({ frames := 8, cells := 7 * (SX.2.2.1.length - p0), slots := 933 * (SX.2.2.1.length - p0), locals := 192 } : Room) s m ([.ref pm, .int (nI k0)] : List Value).toArray below meth c H locs (7 * (S.2.2.1.length - p0)) (933 * (S.2.2.1.length - p0)) (MQ below (va_Qv (fun u => ∃ ed1 op1 to1 sa1 fo1 ys1, RX G u.1 u.2 pm al ad el ed1 fr op1 to1 sa1 fo1 xs ys1 SX) (pz_B (gD G) cls9 (gT G) (mA L f sz)) (mA L f sz)) ([.ref pm, .int (nI k0)] : List Value).toArray s (7 * (SX.2.2.1.length - p0)) (933 * (SX.2.2.1.length - p0)) (mA L f sz)) (F0 m 4 ls []) := by
  have htb : ∀ w ∈ TB, w.before _ s = true := fun w h => hts w (List.mem_cons_of_mem _ h)
  intro n
  induction n with
  | zero =>
    intro S k L1 f1 H locs ls op to sa fo ed ys hn hS1 hS2 hk hp0 hp1 hok9 hrun hR hP hD hS hl
    have hrun : S = SX := hrun
    subst hrun
    refine lv_iload_n hx hb d_PM_lookFrom_4 rfl (lv_at hl 2 rfl) ?_
    refine lv_ldc (v := 4004001) hx hb hown (htb _ tw_385) d_PM_lookFrom_5 ?_
    refine lv_icmp_ge (tgt := 65) hx hb d_PM_lookFrom_7 (by decide) (fun c_1 => ?_) (fun c_1 => ?_)
    · exact pz_vret hx hb hr hlocks hK hP hD hS (Nat.le_refl _) (Nat.le_refl _) ⟨ed, op, to, sa, fo, ys, hR⟩ d_PM_lookFrom_65
    · exact absurd (by decide : (4004001 : Int32) ≤ nI (4004001 - 0)) c_1
  | succ n ih =>
    intro S k L1 f1 H locs ls op to sa fo ed ys hn hS1 hS2 hk hp0 hp1 hok9 hrun hR hP hD hS hl
    obtain ⟨its1, F91, pgs, F, P, T⟩ := S
    have hS1 : its1 = its := hS1
    have hS2 : F91 = F9 := hS2
    subst hS1
    subst hS2
    have hp0 : p0 ≤ pgs.length := hp0
    have hp1 : pgs.length ≤ 512 := hp1
    have hmo : pgs.length ≤ SX.2.2.1.length := by rw [← hrun]; exact c_run_mono (n + 1) (its1, F91, pgs, F, P, T) k
    obtain ⟨hp, hfp, h_al, -, -, -, hX, -⟩ := id hR
    have hX : XR L1 f1 xs its1 := hX
    have hxl : xs.length = its1.length := hX.1
    obtain ⟨mo_al, hm_al, hc_al, -⟩ := id h_al
    refine lv_iload_n hx hb d_PM_lookFrom_4 rfl (lv_at hl 2 rfl) ?_
    refine lv_ldc (v := 4004001) hx hb hown (htb _ tw_385) d_PM_lookFrom_5 ?_
    refine lv_icmp_ge (tgt := 65) hx hb d_PM_lookFrom_7 (by decide) (fun c_2 => ?_) (fun c_2 => ?_)
    · exact absurd c_2 (k_fuel hn)
    · refine lv_aload_n hx hb d_PM_lookFrom_10 rfl (lv_at hl 0 rfl) ?_
      refine lv_iload_n hx hb d_PM_lookFrom_11 rfl (lv_at hl 1 rfl) ?_
      refine vp_callSi (va_Run.run (va_runV (As := [.int (nI k)]) (rest := []) ⟨hx, hb, hml, hown, hts⟩ (c_PM_isItem l G L1 f1 _ pm al el fr op ad xs (nI k) hp hfp h_al) (cwV 1 hts (tb_V tw_386 tw_388 tp_7 tw_1 tw_389) rfl rfl rfl (by decide +kernel) ⟨(Nat.le_of_ble_eq_true rfl), (Nat.le_of_ble_eq_true rfl)⟩) (pz_preV (zz_ok _ _ _) hK hP hD hS hA hz (ci := 4) rfl rfl hp hfp) rfl rfl hl.1 rfl (lv_room (Nat.le_of_ble_eq_true rfl)) d_PM_lookFrom_12 ⟨(k_rc hmo), (k_rs hmo)⟩)) (fun r3 hw => ?_)
      rcases (show k_b (0 ≤ nI k ∧ nI k < nI xs.length) r3 from hw) with ⟨rfl, hq4⟩ | ⟨rfl, hq4⟩
      · refine lv_if_eq (tgt := 65) hx hb d_PM_lookFrom_15 (by decide) (fun c0 => absurd c0 (by decide)) (fun _ => ?_)
        refine lv_aload_n hx hb d_PM_lookFrom_18 rfl (lv_at hl 0 rfl) ?_
        refine pz_get (ci := 4) (C := "PageMaker") (T := T_PM) (N := 4) hx hb htb in_PM hown hK hP hp hfp rfl 0 (by decide) (htb _ tw_160) (fun _ h9 => h9) rfl d_PM_lookFrom_19 ?_
        refine lv_iload_n hx hb d_PM_lookFrom_22 rfl (lv_at hl 1 rfl) ?_
        have hk1 : k < its1.length := by rw [← hxl]; exact (nI_ltI (by omega) (by omega)).mp hq4.2
        obtain ⟨x, hx9⟩ : ∃ x, xs[k]? = some x := ⟨_, List.getElem?_eq_getElem (by omega)⟩
        obtain ⟨it, hi9⟩ : ∃ it, its1[k]? = some it := ⟨_, List.getElem?_eq_getElem hk1⟩
        obtain ⟨hxL, hfx, hok⟩ := hX.2 k x it hx9 hi9
        have hok9 : ((c_lk (its1, F91, pgs, F, P, T) k it).1 = true → c_eok (c_put (its1, F91, pgs, F, P, T) (c_lk (its1, F91, pgs, F, P, T) k it).2)) ∧ c_ok n (c_step (its1, F91, pgs, F, P, T) k it).1 (c_step (its1, F91, pgs, F, P, T) k it).2 := by rw [c_ok.eq_def] at hok9; simp only [hi9] at hok9; exact hok9
        have hrun : (c_run n (c_step (its1, F91, pgs, F, P, T) k it).1 (c_step (its1, F91, pgs, F, P, T) k it).2).1 = SX := by rw [c_run.eq_def] at hrun; simp only [hi9] at hrun; exact hrun
        obtain ⟨B, hB⟩ : ∃ B, B = c_lk (its1, F91, pgs, F, P, T) k it := ⟨_, rfl⟩
        rw [← hB] at hok9
        refine va_csq (va_Run.run (va_runV (As := [.int (nI k)]) (rest := []) ⟨hx, hb, hml, hown, hts⟩ (al_get l G L1 f1 _ al ad xs k x h_al hx9) (cwV 1 hts (tb_V tw_390 tw_391 tw_392 tw_4 tw_393) rfl rfl rfl (by decide +kernel) ⟨(Nat.le_of_ble_eq_true rfl), (Nat.le_of_ble_eq_true rfl)⟩) (pz_preV (zz_ok _ _ _) hK hP hD hS hA hz (ci := 0) rfl rfl hm_al hc_al) rfl rfl hl.1 rfl (lv_room (Nat.le_of_ble_eq_true rfl)) d_PM_lookFrom_23 ⟨(k_rc hmo), (k_rs hmo)⟩)) (fun r5 hw => ?_)
        have hw : r5 = some x := hw
        subst hw
        refine W.eq (g2 := F0 m 26 ls [.ref x]) rfl ?_
        rcases it with ⟨ia, ib⟩ | ⟨ia, ib, io, id9⟩ | ia | ia
        · refine va_castY (C := "PageMaker$Box") hx hb hown (htb _ tw_404) (hz.1 _ tn_884) (pz_recv hK hP (ci := 5) rfl hxL hfx) d_PM_lookFrom_26 ?_
          refine lv_astore (lv' := [(4, .ref x), (0, .ref pm), (2, .int (nI k)), (3, .int (nI (4004001 - (n + 1))))]) hx hb d_PM_lookFrom_29 hl (by decide) rfl (fun ls hl => ?_)
          refine lv_aload_n hx hb d_PM_lookFrom_31 rfl (lv_at hl 1 rfl) ?_
          refine lv_iload_n hx hb d_PM_lookFrom_32 rfl (lv_at hl 2 rfl) ?_
          refine lv_aload hx hb d_PM_lookFrom_33 (lv_at hl 0 rfl) ?_
          refine pz_ci (va_runV (As := [.int (nI k), .ref x]) (rest := []) ⟨hx, hb, hml, hown, hts⟩ (r_PM_break l G L1 f1 _ pm al ad el ed fr op to sa fo xs ys its1 F91 pgs F P T k x _ hR hk1 hx9 hi9 hn5) (cwV 2 hts (tb_V tw_405 tw_407 tp_8 tw_1 tw_408) rfl rfl rfl (by decide +kernel) ⟨(Nat.le_of_ble_eq_true rfl), (Nat.le_of_ble_eq_true rfl)⟩) (pz_preV (zz_ok _ _ _) hK hP hD hS hA hz (ci := 4) rfl rfl hp hfp) rfl rfl hl.1 rfl (lv_room (Nat.le_of_ble_eq_true rfl)) d_PM_lookFrom_35 ⟨(k_rc hmo), (k_rs hmo)⟩) hP hD hS hA (fun r9 L9 f9 H locs hw hP hD hS => ?_)
          obtain ⟨hb9, hiff, eL9, hR⟩ := hw
          have eL9 : L9 = L1 := eL9
          subst L9
          rw [← hB] at hiff hR
          have hR : RX G L1 f9 pm al ad el ed fr op to sa fo xs ys (its1, F91, pgs, F, B.2, T) := hR
          obtain ⟨hp, hfp, -, -, -, -, hX, -⟩ := id hR
          have hX : XR L1 f9 xs its1 := hX
          have hfx : f9 x = itE (.inl (ia, ib)) := (hX.2 k x _ hx9 hi9).2.1
          rcases hb9 with rfl | rfl
          · refine lv_if_eq (tgt := 49) hx hb d_PM_lookFrom_38 (by decide) (fun c0 => absurd c0 (by decide)) (fun _ => ?_)
            refine lv_aload_n hx hb d_PM_lookFrom_41 rfl (lv_at hl 1 rfl) ?_
            have hB1 : B.1 = true := hiff.mp rfl
            obtain ⟨ea, eb, b0, b1, e1, e2, e3, e4, e5, e6⟩ := hok9.1 hB1
            have e6 : pgs.length < 512 := e6
            have hst : c_step (its1, F91, pgs, F, P, T) k (.inl (ia, ib)) = (c_end (c_put (its1, F91, pgs, F, P, T) B.2) ea eb, eb) := by rw [hB] at hB1 e1 e2 ⊢; exact c_step_end hB1 e1 e2 e3 e4 e5 hn5
            have hok9 := hok9.2
            rw [hst] at hok9 hrun
            have hmo1 : pgs.length + 1 ≤ SX.2.2.1.length := by rw [← hrun]; refine Nat.le_trans (Nat.le_of_eq ?_) (c_run_mono _ _ _); exact (List.length_append.trans (by rw [List.length_singleton]; rfl)).symm
            refine pz_ci (va_runV (As := []) (rest := []) ⟨hx, hb, hml, hown, hts⟩ (c_PM_endOpenPage l G L1 f9 _ pm al ad el ed fr op to sa fo xs ys its1 F91 pgs F B.2 T ea eb b0 b1 hR e1 e2 e3 e4 e5 hn5 e6) (cwV 0 hts (tb_V tw_442 tw_444 tp_9 tw_1 tw_445) rfl rfl rfl (by decide +kernel) ⟨(Nat.le_of_ble_eq_true rfl), (Nat.le_of_ble_eq_true rfl)⟩) (pz_preV (zz_ok _ _ _) hK hP hD hS hA hz (ci := 4) rfl rfl hp hfp) rfl rfl hl.1 rfl (lv_room (Nat.le_of_ble_eq_true rfl)) d_PM_lookFrom_42 ⟨(k_room7 hp0 hmo1), (k_room9 hp0 hmo1)⟩) hP hD hS hA (fun r8 L8 f8 H locs hw hP hD hS => ?_)
            obtain ⟨er8, ed8, op8, to8, sa8, ys8, hR8⟩ := hw
            have er8 : r8 = nI eb := er8
            subst r8
            refine lv_istore_n (lv' := [(2, .int (nI eb)), (4, .ref x), (0, .ref pm), (3, .int (nI (4004001 - (n + 1))))]) hx hb d_PM_lookFrom_45 rfl hl (by decide) rfl (fun ls hl => ?_)
            refine lv_goto (tgt := 59) hx hb d_PM_lookFrom_46 (by decide) ?_
            refine lv_iinc (v := nI (4004001 - n)) (lv' := [(3, .int (nI (4004001 - n))), (2, .int (nI eb)), (4, .ref x), (0, .ref pm)]) hx hb d_PM_lookFrom_59 hl (k := 3) rfl (k_inc hn) (by decide) rfl (fun ls hl => ?_)
            refine lv_goto (tgt := 4) hx hb d_PM_lookFrom_62 (by decide) ?_
            have hlen : (pgs ++ [(F, g_set B.2 F.1 (t_list its1 F ea eb))]).length = pgs.length + 1 := by rw [List.length_append, List.length_singleton]
            refine W.widen (k := 7 * ((pgs ++ [(F, g_set B.2 F.1 (t_list its1 F ea eb))]).length - p0)) (n := 933 * ((pgs ++ [(F, g_set B.2 F.1 (t_list its1 F ea eb))]).length - p0)) (by rw [hlen]; show 7 * (pgs.length - p0) + 7 ≤ _; omega) (by rw [hlen]; show 933 * (pgs.length - p0) + 933 ≤ _; omega) ?_
            exact ih _ eb L8 f8 H locs ls op8 to8 sa8 fr ed8 ys8 (by omega) rfl rfl e5 (by show p0 ≤ (pgs ++ [_]).length; rw [List.length_append, List.length_singleton]; omega) (by show (pgs ++ [_]).length ≤ 512; rw [List.length_append, List.length_singleton]; omega) hok9 hrun hR8 hP hD hS (lv_sub hl [3, 1, 0] rfl)
          · refine lv_if_eq (tgt := 49) hx hb d_PM_lookFrom_38 (by decide) (fun _ => ?_) (fun c0 => absurd c0 (by decide))
            refine lv_aload_n hx hb d_PM_lookFrom_49 rfl (lv_at hl 1 rfl) ?_
            refine lv_iload_n hx hb d_PM_lookFrom_50 rfl (lv_at hl 2 rfl) ?_
            refine lv_aload hx hb d_PM_lookFrom_51 (lv_at hl 0 rfl) ?_
            have hst : c_step (its1, F91, pgs, F, P, T) k (.inl (ia, ib)) = (c_tk (c_put (its1, F91, pgs, F, P, T) B.2) k (.inl (ia, ib)), k + 1) := by rw [hB] at hiff ⊢; exact if_neg (fun h => absurd (hiff.mpr h) (by decide))
            have hok9 := hok9.2
            rw [hst] at hok9 hrun
            refine pz_cv (va_runV (As := [.int (nI k), .ref x]) (rest := []) ⟨hx, hb, hml, hown, hts⟩ (c_PM_takeIn l G L1 f9 _ pm al ad el ed fr op to sa fo xs ys its1 F91 pgs F B.2 T k x _ hR hx9 hi9) (cwV 2 hts (tb_V tw_525 tw_527 tp_11 tw_1 tw_528) rfl rfl rfl (by decide +kernel) ⟨(Nat.le_of_ble_eq_true rfl), (Nat.le_of_ble_eq_true rfl)⟩) (pz_preV (zz_ok _ _ _) hK hP hD hS hA hz (ci := 4) rfl rfl hp hfp) rfl rfl hl.1 rfl (lv_room (Nat.le_of_ble_eq_true rfl)) d_PM_lookFrom_53 ⟨(k_rc hmo), (k_rs hmo)⟩) hP hD hS hA (fun L8 f8 H locs hw hP hD hS => ?_)
            obtain ⟨eL8, fo8, hR8⟩ := hw
            have eL8 : L8 = L1 := eL8
            subst L8
            refine lv_iinc (v := nI (k + 1)) (lv' := [(2, .int (nI (k + 1))), (4, .ref x), (0, .ref pm), (3, .int (nI (4004001 - (n + 1))))]) hx hb d_PM_lookFrom_56 hl (k := 2) rfl (nI_1 k) (by decide) rfl (fun ls hl => ?_)
            refine lv_iinc (v := nI (4004001 - n)) (lv' := [(3, .int (nI (4004001 - n))), (2, .int (nI (k + 1))), (4, .ref x), (0, .ref pm)]) hx hb d_PM_lookFrom_59 hl (k := 3) rfl (k_inc hn) (by decide) rfl (fun ls hl => ?_)
            refine lv_goto (tgt := 4) hx hb d_PM_lookFrom_62 (by decide) ?_
            exact ih (c_tk (c_put (its1, F91, pgs, F, P, T) B.2) k (.inl (ia, ib))) (k + 1) L1 f8 H locs ls op to sa fo8 ed ys (by omega) rfl rfl (by omega) hp0 hp1 hok9 hrun hR8 hP hD hS (lv_sub hl [3, 1, 0] rfl)
        · refine va_castY (C := "PageMaker$Glue") hx hb hown (htb _ tw_404) (hz.1 _ tn_885) (pz_recv hK hP (ci := 6) rfl hxL hfx) d_PM_lookFrom_26 ?_
          refine lv_astore (lv' := [(4, .ref x), (0, .ref pm), (2, .int (nI k)), (3, .int (nI (4004001 - (n + 1))))]) hx hb d_PM_lookFrom_29 hl (by decide) rfl (fun ls hl => ?_)
          refine lv_aload_n hx hb d_PM_lookFrom_31 rfl (lv_at hl 1 rfl) ?_
          refine lv_iload_n hx hb d_PM_lookFrom_32 rfl (lv_at hl 2 rfl) ?_
          refine lv_aload hx hb d_PM_lookFrom_33 (lv_at hl 0 rfl) ?_
          refine pz_ci (va_runV (As := [.int (nI k), .ref x]) (rest := []) ⟨hx, hb, hml, hown, hts⟩ (r_PM_break l G L1 f1 _ pm al ad el ed fr op to sa fo xs ys its1 F91 pgs F P T k x _ hR hk1 hx9 hi9 hn5) (cwV 2 hts (tb_V tw_405 tw_407 tp_8 tw_1 tw_408) rfl rfl rfl (by decide +kernel) ⟨(Nat.le_of_ble_eq_true rfl), (Nat.le_of_ble_eq_true rfl)⟩) (pz_preV (zz_ok _ _ _) hK hP hD hS hA hz (ci := 4) rfl rfl hp hfp) rfl rfl hl.1 rfl (lv_room (Nat.le_of_ble_eq_true rfl)) d_PM_lookFrom_35 ⟨(k_rc hmo), (k_rs hmo)⟩) hP hD hS hA (fun r9 L9 f9 H locs hw hP hD hS => ?_)
          obtain ⟨hb9, hiff, eL9, hR⟩ := hw
          have eL9 : L9 = L1 := eL9
          subst L9
          rw [← hB] at hiff hR
          have hR : RX G L1 f9 pm al ad el ed fr op to sa fo xs ys (its1, F91, pgs, F, B.2, T) := hR
          obtain ⟨hp, hfp, -, -, -, -, hX, -⟩ := id hR
          have hX : XR L1 f9 xs its1 := hX
          have hfx : f9 x = itE (.inr (.inl (ia, ib, io, id9))) := (hX.2 k x _ hx9 hi9).2.1
          rcases hb9 with rfl | rfl
          · refine lv_if_eq (tgt := 49) hx hb d_PM_lookFrom_38 (by decide) (fun c0 => absurd c0 (by decide)) (fun _ => ?_)
            refine lv_aload_n hx hb d_PM_lookFrom_41 rfl (lv_at hl 1 rfl) ?_
            have hB1 : B.1 = true := hiff.mp rfl
            obtain ⟨ea, eb, b0, b1, e1, e2, e3, e4, e5, e6⟩ := hok9.1 hB1
            have e6 : pgs.length < 512 := e6
            have hst : c_step (its1, F91, pgs, F, P, T) k (.inr (.inl (ia, ib, io, id9))) = (c_end (c_put (its1, F91, pgs, F, P, T) B.2) ea eb, eb) := by rw [hB] at hB1 e1 e2 ⊢; exact c_step_end hB1 e1 e2 e3 e4 e5 hn5
            have hok9 := hok9.2
            rw [hst] at hok9 hrun
            have hmo1 : pgs.length + 1 ≤ SX.2.2.1.length := by rw [← hrun]; refine Nat.le_trans (Nat.le_of_eq ?_) (c_run_mono _ _ _); exact (List.length_append.trans (by rw [List.length_singleton]; rfl)).symm
            refine pz_ci (va_runV (As := []) (rest := []) ⟨hx, hb, hml, hown, hts⟩ (c_PM_endOpenPage l G L1 f9 _ pm al ad el ed fr op to sa fo xs ys its1 F91 pgs F B.2 T ea eb b0 b1 hR e1 e2 e3 e4 e5 hn5 e6) (cwV 0 hts (tb_V tw_442 tw_444 tp_9 tw_1 tw_445) rfl rfl rfl (by decide +kernel) ⟨(Nat.le_of_ble_eq_true rfl), (Nat.le_of_ble_eq_true rfl)⟩) (pz_preV (zz_ok _ _ _) hK hP hD hS hA hz (ci := 4) rfl rfl hp hfp) rfl rfl hl.1 rfl (lv_room (Nat.le_of_ble_eq_true rfl)) d_PM_lookFrom_42 ⟨(k_room7 hp0 hmo1), (k_room9 hp0 hmo1)⟩) hP hD hS hA (fun r8 L8 f8 H locs hw hP hD hS => ?_)
            obtain ⟨er8, ed8, op8, to8, sa8, ys8, hR8⟩ := hw
            have er8 : r8 = nI eb := er8
            subst r8
            refine lv_istore_n (lv' := [(2, .int (nI eb)), (4, .ref x), (0, .ref pm), (3, .int (nI (4004001 - (n + 1))))]) hx hb d_PM_lookFrom_45 rfl hl (by decide) rfl (fun ls hl => ?_)
            refine lv_goto (tgt := 59) hx hb d_PM_lookFrom_46 (by decide) ?_
            refine lv_iinc (v := nI (4004001 - n)) (lv' := [(3, .int (nI (4004001 - n))), (2, .int (nI eb)), (4, .ref x), (0, .ref pm)]) hx hb d_PM_lookFrom_59 hl (k := 3) rfl (k_inc hn) (by decide) rfl (fun ls hl => ?_)
            refine lv_goto (tgt := 4) hx hb d_PM_lookFrom_62 (by decide) ?_
            have hlen : (pgs ++ [(F, g_set B.2 F.1 (t_list its1 F ea eb))]).length = pgs.length + 1 := by rw [List.length_append, List.length_singleton]
            refine W.widen (k := 7 * ((pgs ++ [(F, g_set B.2 F.1 (t_list its1 F ea eb))]).length - p0)) (n := 933 * ((pgs ++ [(F, g_set B.2 F.1 (t_list its1 F ea eb))]).length - p0)) (by rw [hlen]; show 7 * (pgs.length - p0) + 7 ≤ _; omega) (by rw [hlen]; show 933 * (pgs.length - p0) + 933 ≤ _; omega) ?_
            exact ih _ eb L8 f8 H locs ls op8 to8 sa8 fr ed8 ys8 (by omega) rfl rfl e5 (by show p0 ≤ (pgs ++ [_]).length; rw [List.length_append, List.length_singleton]; omega) (by show (pgs ++ [_]).length ≤ 512; rw [List.length_append, List.length_singleton]; omega) hok9 hrun hR8 hP hD hS (lv_sub hl [3, 1, 0] rfl)
          · refine lv_if_eq (tgt := 49) hx hb d_PM_lookFrom_38 (by decide) (fun _ => ?_) (fun c0 => absurd c0 (by decide))
            refine lv_aload_n hx hb d_PM_lookFrom_49 rfl (lv_at hl 1 rfl) ?_
            refine lv_iload_n hx hb d_PM_lookFrom_50 rfl (lv_at hl 2 rfl) ?_
            refine lv_aload hx hb d_PM_lookFrom_51 (lv_at hl 0 rfl) ?_
            have hst : c_step (its1, F91, pgs, F, P, T) k (.inr (.inl (ia, ib, io, id9))) = (c_tk (c_put (its1, F91, pgs, F, P, T) B.2) k (.inr (.inl (ia, ib, io, id9))), k + 1) := by rw [hB] at hiff ⊢; exact if_neg (fun h => absurd (hiff.mpr h) (by decide))
            have hok9 := hok9.2
            rw [hst] at hok9 hrun
            refine pz_cv (va_runV (As := [.int (nI k), .ref x]) (rest := []) ⟨hx, hb, hml, hown, hts⟩ (c_PM_takeIn l G L1 f9 _ pm al ad el ed fr op to sa fo xs ys its1 F91 pgs F B.2 T k x _ hR hx9 hi9) (cwV 2 hts (tb_V tw_525 tw_527 tp_11 tw_1 tw_528) rfl rfl rfl (by decide +kernel) ⟨(Nat.le_of_ble_eq_true rfl), (Nat.le_of_ble_eq_true rfl)⟩) (pz_preV (zz_ok _ _ _) hK hP hD hS hA hz (ci := 4) rfl rfl hp hfp) rfl rfl hl.1 rfl (lv_room (Nat.le_of_ble_eq_true rfl)) d_PM_lookFrom_53 ⟨(k_rc hmo), (k_rs hmo)⟩) hP hD hS hA (fun L8 f8 H locs hw hP hD hS => ?_)
            obtain ⟨eL8, fo8, hR8⟩ := hw
            have eL8 : L8 = L1 := eL8
            subst L8
            refine lv_iinc (v := nI (k + 1)) (lv' := [(2, .int (nI (k + 1))), (4, .ref x), (0, .ref pm), (3, .int (nI (4004001 - (n + 1))))]) hx hb d_PM_lookFrom_56 hl (k := 2) rfl (nI_1 k) (by decide) rfl (fun ls hl => ?_)
            refine lv_iinc (v := nI (4004001 - n)) (lv' := [(3, .int (nI (4004001 - n))), (2, .int (nI (k + 1))), (4, .ref x), (0, .ref pm)]) hx hb d_PM_lookFrom_59 hl (k := 3) rfl (k_inc hn) (by decide) rfl (fun ls hl => ?_)
            refine lv_goto (tgt := 4) hx hb d_PM_lookFrom_62 (by decide) ?_
            exact ih (c_tk (c_put (its1, F91, pgs, F, P, T) B.2) k (.inr (.inl (ia, ib, io, id9)))) (k + 1) L1 f8 H locs ls op to sa fo8 ed ys (by omega) rfl rfl (by omega) hp0 hp1 hok9 hrun hR8 hP hD hS (lv_sub hl [3, 1, 0] rfl)
        · refine va_castY (C := "PageMaker$Kern") hx hb hown (htb _ tw_404) (hz.1 _ tn_886) (pz_recv hK hP (ci := 7) rfl hxL hfx) d_PM_lookFrom_26 ?_
          refine lv_astore (lv' := [(4, .ref x), (0, .ref pm), (2, .int (nI k)), (3, .int (nI (4004001 - (n + 1))))]) hx hb d_PM_lookFrom_29 hl (by decide) rfl (fun ls hl => ?_)
          refine lv_aload_n hx hb d_PM_lookFrom_31 rfl (lv_at hl 1 rfl) ?_
          refine lv_iload_n hx hb d_PM_lookFrom_32 rfl (lv_at hl 2 rfl) ?_
          refine lv_aload hx hb d_PM_lookFrom_33 (lv_at hl 0 rfl) ?_
          refine pz_ci (va_runV (As := [.int (nI k), .ref x]) (rest := []) ⟨hx, hb, hml, hown, hts⟩ (r_PM_break l G L1 f1 _ pm al ad el ed fr op to sa fo xs ys its1 F91 pgs F P T k x _ hR hk1 hx9 hi9 hn5) (cwV 2 hts (tb_V tw_405 tw_407 tp_8 tw_1 tw_408) rfl rfl rfl (by decide +kernel) ⟨(Nat.le_of_ble_eq_true rfl), (Nat.le_of_ble_eq_true rfl)⟩) (pz_preV (zz_ok _ _ _) hK hP hD hS hA hz (ci := 4) rfl rfl hp hfp) rfl rfl hl.1 rfl (lv_room (Nat.le_of_ble_eq_true rfl)) d_PM_lookFrom_35 ⟨(k_rc hmo), (k_rs hmo)⟩) hP hD hS hA (fun r9 L9 f9 H locs hw hP hD hS => ?_)
          obtain ⟨hb9, hiff, eL9, hR⟩ := hw
          have eL9 : L9 = L1 := eL9
          subst L9
          rw [← hB] at hiff hR
          have hR : RX G L1 f9 pm al ad el ed fr op to sa fo xs ys (its1, F91, pgs, F, B.2, T) := hR
          obtain ⟨hp, hfp, -, -, -, -, hX, -⟩ := id hR
          have hX : XR L1 f9 xs its1 := hX
          have hfx : f9 x = itE (.inr (.inr (.inl ia))) := (hX.2 k x _ hx9 hi9).2.1
          rcases hb9 with rfl | rfl
          · refine lv_if_eq (tgt := 49) hx hb d_PM_lookFrom_38 (by decide) (fun c0 => absurd c0 (by decide)) (fun _ => ?_)
            refine lv_aload_n hx hb d_PM_lookFrom_41 rfl (lv_at hl 1 rfl) ?_
            have hB1 : B.1 = true := hiff.mp rfl
            obtain ⟨ea, eb, b0, b1, e1, e2, e3, e4, e5, e6⟩ := hok9.1 hB1
            have e6 : pgs.length < 512 := e6
            have hst : c_step (its1, F91, pgs, F, P, T) k (.inr (.inr (.inl ia))) = (c_end (c_put (its1, F91, pgs, F, P, T) B.2) ea eb, eb) := by rw [hB] at hB1 e1 e2 ⊢; exact c_step_end hB1 e1 e2 e3 e4 e5 hn5
            have hok9 := hok9.2
            rw [hst] at hok9 hrun
            have hmo1 : pgs.length + 1 ≤ SX.2.2.1.length := by rw [← hrun]; refine Nat.le_trans (Nat.le_of_eq ?_) (c_run_mono _ _ _); exact (List.length_append.trans (by rw [List.length_singleton]; rfl)).symm
            refine pz_ci (va_runV (As := []) (rest := []) ⟨hx, hb, hml, hown, hts⟩ (c_PM_endOpenPage l G L1 f9 _ pm al ad el ed fr op to sa fo xs ys its1 F91 pgs F B.2 T ea eb b0 b1 hR e1 e2 e3 e4 e5 hn5 e6) (cwV 0 hts (tb_V tw_442 tw_444 tp_9 tw_1 tw_445) rfl rfl rfl (by decide +kernel) ⟨(Nat.le_of_ble_eq_true rfl), (Nat.le_of_ble_eq_true rfl)⟩) (pz_preV (zz_ok _ _ _) hK hP hD hS hA hz (ci := 4) rfl rfl hp hfp) rfl rfl hl.1 rfl (lv_room (Nat.le_of_ble_eq_true rfl)) d_PM_lookFrom_42 ⟨(k_room7 hp0 hmo1), (k_room9 hp0 hmo1)⟩) hP hD hS hA (fun r8 L8 f8 H locs hw hP hD hS => ?_)
            obtain ⟨er8, ed8, op8, to8, sa8, ys8, hR8⟩ := hw
            have er8 : r8 = nI eb := er8
            subst r8
            refine lv_istore_n (lv' := [(2, .int (nI eb)), (4, .ref x), (0, .ref pm), (3, .int (nI (4004001 - (n + 1))))]) hx hb d_PM_lookFrom_45 rfl hl (by decide) rfl (fun ls hl => ?_)
            refine lv_goto (tgt := 59) hx hb d_PM_lookFrom_46 (by decide) ?_
            refine lv_iinc (v := nI (4004001 - n)) (lv' := [(3, .int (nI (4004001 - n))), (2, .int (nI eb)), (4, .ref x), (0, .ref pm)]) hx hb d_PM_lookFrom_59 hl (k := 3) rfl (k_inc hn) (by decide) rfl (fun ls hl => ?_)
            refine lv_goto (tgt := 4) hx hb d_PM_lookFrom_62 (by decide) ?_
            have hlen : (pgs ++ [(F, g_set B.2 F.1 (t_list its1 F ea eb))]).length = pgs.length + 1 := by rw [List.length_append, List.length_singleton]
            refine W.widen (k := 7 * ((pgs ++ [(F, g_set B.2 F.1 (t_list its1 F ea eb))]).length - p0)) (n := 933 * ((pgs ++ [(F, g_set B.2 F.1 (t_list its1 F ea eb))]).length - p0)) (by rw [hlen]; show 7 * (pgs.length - p0) + 7 ≤ _; omega) (by rw [hlen]; show 933 * (pgs.length - p0) + 933 ≤ _; omega) ?_
            exact ih _ eb L8 f8 H locs ls op8 to8 sa8 fr ed8 ys8 (by omega) rfl rfl e5 (by show p0 ≤ (pgs ++ [_]).length; rw [List.length_append, List.length_singleton]; omega) (by show (pgs ++ [_]).length ≤ 512; rw [List.length_append, List.length_singleton]; omega) hok9 hrun hR8 hP hD hS (lv_sub hl [3, 1, 0] rfl)
          · refine lv_if_eq (tgt := 49) hx hb d_PM_lookFrom_38 (by decide) (fun _ => ?_) (fun c0 => absurd c0 (by decide))
            refine lv_aload_n hx hb d_PM_lookFrom_49 rfl (lv_at hl 1 rfl) ?_
            refine lv_iload_n hx hb d_PM_lookFrom_50 rfl (lv_at hl 2 rfl) ?_
            refine lv_aload hx hb d_PM_lookFrom_51 (lv_at hl 0 rfl) ?_
            have hst : c_step (its1, F91, pgs, F, P, T) k (.inr (.inr (.inl ia))) = (c_tk (c_put (its1, F91, pgs, F, P, T) B.2) k (.inr (.inr (.inl ia))), k + 1) := by rw [hB] at hiff ⊢; exact if_neg (fun h => absurd (hiff.mpr h) (by decide))
            have hok9 := hok9.2
            rw [hst] at hok9 hrun
            refine pz_cv (va_runV (As := [.int (nI k), .ref x]) (rest := []) ⟨hx, hb, hml, hown, hts⟩ (c_PM_takeIn l G L1 f9 _ pm al ad el ed fr op to sa fo xs ys its1 F91 pgs F B.2 T k x _ hR hx9 hi9) (cwV 2 hts (tb_V tw_525 tw_527 tp_11 tw_1 tw_528) rfl rfl rfl (by decide +kernel) ⟨(Nat.le_of_ble_eq_true rfl), (Nat.le_of_ble_eq_true rfl)⟩) (pz_preV (zz_ok _ _ _) hK hP hD hS hA hz (ci := 4) rfl rfl hp hfp) rfl rfl hl.1 rfl (lv_room (Nat.le_of_ble_eq_true rfl)) d_PM_lookFrom_53 ⟨(k_rc hmo), (k_rs hmo)⟩) hP hD hS hA (fun L8 f8 H locs hw hP hD hS => ?_)
            obtain ⟨eL8, fo8, hR8⟩ := hw
            have eL8 : L8 = L1 := eL8
            subst L8
            refine lv_iinc (v := nI (k + 1)) (lv' := [(2, .int (nI (k + 1))), (4, .ref x), (0, .ref pm), (3, .int (nI (4004001 - (n + 1))))]) hx hb d_PM_lookFrom_56 hl (k := 2) rfl (nI_1 k) (by decide) rfl (fun ls hl => ?_)
            refine lv_iinc (v := nI (4004001 - n)) (lv' := [(3, .int (nI (4004001 - n))), (2, .int (nI (k + 1))), (4, .ref x), (0, .ref pm)]) hx hb d_PM_lookFrom_59 hl (k := 3) rfl (k_inc hn) (by decide) rfl (fun ls hl => ?_)
            refine lv_goto (tgt := 4) hx hb d_PM_lookFrom_62 (by decide) ?_
            exact ih (c_tk (c_put (its1, F91, pgs, F, P, T) B.2) k (.inr (.inr (.inl ia)))) (k + 1) L1 f8 H locs ls op to sa fo8 ed ys (by omega) rfl rfl (by omega) hp0 hp1 hok9 hrun hR8 hP hD hS (lv_sub hl [3, 1, 0] rfl)
        · refine va_castY (C := "PageMaker$Penalty") hx hb hown (htb _ tw_404) (hz.1 _ tn_887) (pz_recv hK hP (ci := 8) rfl hxL hfx) d_PM_lookFrom_26 ?_
          refine lv_astore (lv' := [(4, .ref x), (0, .ref pm), (2, .int (nI k)), (3, .int (nI (4004001 - (n + 1))))]) hx hb d_PM_lookFrom_29 hl (by decide) rfl (fun ls hl => ?_)
          refine lv_aload_n hx hb d_PM_lookFrom_31 rfl (lv_at hl 1 rfl) ?_
          refine lv_iload_n hx hb d_PM_lookFrom_32 rfl (lv_at hl 2 rfl) ?_
          refine lv_aload hx hb d_PM_lookFrom_33 (lv_at hl 0 rfl) ?_
          refine pz_ci (va_runV (As := [.int (nI k), .ref x]) (rest := []) ⟨hx, hb, hml, hown, hts⟩ (r_PM_break l G L1 f1 _ pm al ad el ed fr op to sa fo xs ys its1 F91 pgs F P T k x _ hR hk1 hx9 hi9 hn5) (cwV 2 hts (tb_V tw_405 tw_407 tp_8 tw_1 tw_408) rfl rfl rfl (by decide +kernel) ⟨(Nat.le_of_ble_eq_true rfl), (Nat.le_of_ble_eq_true rfl)⟩) (pz_preV (zz_ok _ _ _) hK hP hD hS hA hz (ci := 4) rfl rfl hp hfp) rfl rfl hl.1 rfl (lv_room (Nat.le_of_ble_eq_true rfl)) d_PM_lookFrom_35 ⟨(k_rc hmo), (k_rs hmo)⟩) hP hD hS hA (fun r9 L9 f9 H locs hw hP hD hS => ?_)
          obtain ⟨hb9, hiff, eL9, hR⟩ := hw
          have eL9 : L9 = L1 := eL9
          subst L9
          rw [← hB] at hiff hR
          have hR : RX G L1 f9 pm al ad el ed fr op to sa fo xs ys (its1, F91, pgs, F, B.2, T) := hR
          obtain ⟨hp, hfp, -, -, -, -, hX, -⟩ := id hR
          have hX : XR L1 f9 xs its1 := hX
          have hfx : f9 x = itE (.inr (.inr (.inr ia))) := (hX.2 k x _ hx9 hi9).2.1
          rcases hb9 with rfl | rfl
          · refine lv_if_eq (tgt := 49) hx hb d_PM_lookFrom_38 (by decide) (fun c0 => absurd c0 (by decide)) (fun _ => ?_)
            refine lv_aload_n hx hb d_PM_lookFrom_41 rfl (lv_at hl 1 rfl) ?_
            have hB1 : B.1 = true := hiff.mp rfl
            obtain ⟨ea, eb, b0, b1, e1, e2, e3, e4, e5, e6⟩ := hok9.1 hB1
            have e6 : pgs.length < 512 := e6
            have hst : c_step (its1, F91, pgs, F, P, T) k (.inr (.inr (.inr ia))) = (c_end (c_put (its1, F91, pgs, F, P, T) B.2) ea eb, eb) := by rw [hB] at hB1 e1 e2 ⊢; exact c_step_end hB1 e1 e2 e3 e4 e5 hn5
            have hok9 := hok9.2
            rw [hst] at hok9 hrun
            have hmo1 : pgs.length + 1 ≤ SX.2.2.1.length := by rw [← hrun]; refine Nat.le_trans (Nat.le_of_eq ?_) (c_run_mono _ _ _); exact (List.length_append.trans (by rw [List.length_singleton]; rfl)).symm
            refine pz_ci (va_runV (As := []) (rest := []) ⟨hx, hb, hml, hown, hts⟩ (c_PM_endOpenPage l G L1 f9 _ pm al ad el ed fr op to sa fo xs ys its1 F91 pgs F B.2 T ea eb b0 b1 hR e1 e2 e3 e4 e5 hn5 e6) (cwV 0 hts (tb_V tw_442 tw_444 tp_9 tw_1 tw_445) rfl rfl rfl (by decide +kernel) ⟨(Nat.le_of_ble_eq_true rfl), (Nat.le_of_ble_eq_true rfl)⟩) (pz_preV (zz_ok _ _ _) hK hP hD hS hA hz (ci := 4) rfl rfl hp hfp) rfl rfl hl.1 rfl (lv_room (Nat.le_of_ble_eq_true rfl)) d_PM_lookFrom_42 ⟨(k_room7 hp0 hmo1), (k_room9 hp0 hmo1)⟩) hP hD hS hA (fun r8 L8 f8 H locs hw hP hD hS => ?_)
            obtain ⟨er8, ed8, op8, to8, sa8, ys8, hR8⟩ := hw
            have er8 : r8 = nI eb := er8
            subst r8
            refine lv_istore_n (lv' := [(2, .int (nI eb)), (4, .ref x), (0, .ref pm), (3, .int (nI (4004001 - (n + 1))))]) hx hb d_PM_lookFrom_45 rfl hl (by decide) rfl (fun ls hl => ?_)
            refine lv_goto (tgt := 59) hx hb d_PM_lookFrom_46 (by decide) ?_
            refine lv_iinc (v := nI (4004001 - n)) (lv' := [(3, .int (nI (4004001 - n))), (2, .int (nI eb)), (4, .ref x), (0, .ref pm)]) hx hb d_PM_lookFrom_59 hl (k := 3) rfl (k_inc hn) (by decide) rfl (fun ls hl => ?_)
            refine lv_goto (tgt := 4) hx hb d_PM_lookFrom_62 (by decide) ?_
            have hlen : (pgs ++ [(F, g_set B.2 F.1 (t_list its1 F ea eb))]).length = pgs.length + 1 := by rw [List.length_append, List.length_singleton]
            refine W.widen (k := 7 * ((pgs ++ [(F, g_set B.2 F.1 (t_list its1 F ea eb))]).length - p0)) (n := 933 * ((pgs ++ [(F, g_set B.2 F.1 (t_list its1 F ea eb))]).length - p0)) (by rw [hlen]; show 7 * (pgs.length - p0) + 7 ≤ _; omega) (by rw [hlen]; show 933 * (pgs.length - p0) + 933 ≤ _; omega) ?_
            exact ih _ eb L8 f8 H locs ls op8 to8 sa8 fr ed8 ys8 (by omega) rfl rfl e5 (by show p0 ≤ (pgs ++ [_]).length; rw [List.length_append, List.length_singleton]; omega) (by show (pgs ++ [_]).length ≤ 512; rw [List.length_append, List.length_singleton]; omega) hok9 hrun hR8 hP hD hS (lv_sub hl [3, 1, 0] rfl)
          · refine lv_if_eq (tgt := 49) hx hb d_PM_lookFrom_38 (by decide) (fun _ => ?_) (fun c0 => absurd c0 (by decide))
            refine lv_aload_n hx hb d_PM_lookFrom_49 rfl (lv_at hl 1 rfl) ?_
            refine lv_iload_n hx hb d_PM_lookFrom_50 rfl (lv_at hl 2 rfl) ?_
            refine lv_aload hx hb d_PM_lookFrom_51 (lv_at hl 0 rfl) ?_
            have hst : c_step (its1, F91, pgs, F, P, T) k (.inr (.inr (.inr ia))) = (c_tk (c_put (its1, F91, pgs, F, P, T) B.2) k (.inr (.inr (.inr ia))), k + 1) := by rw [hB] at hiff ⊢; exact if_neg (fun h => absurd (hiff.mpr h) (by decide))
            have hok9 := hok9.2
            rw [hst] at hok9 hrun
            refine pz_cv (va_runV (As := [.int (nI k), .ref x]) (rest := []) ⟨hx, hb, hml, hown, hts⟩ (c_PM_takeIn l G L1 f9 _ pm al ad el ed fr op to sa fo xs ys its1 F91 pgs F B.2 T k x _ hR hx9 hi9) (cwV 2 hts (tb_V tw_525 tw_527 tp_11 tw_1 tw_528) rfl rfl rfl (by decide +kernel) ⟨(Nat.le_of_ble_eq_true rfl), (Nat.le_of_ble_eq_true rfl)⟩) (pz_preV (zz_ok _ _ _) hK hP hD hS hA hz (ci := 4) rfl rfl hp hfp) rfl rfl hl.1 rfl (lv_room (Nat.le_of_ble_eq_true rfl)) d_PM_lookFrom_53 ⟨(k_rc hmo), (k_rs hmo)⟩) hP hD hS hA (fun L8 f8 H locs hw hP hD hS => ?_)
            obtain ⟨eL8, fo8, hR8⟩ := hw
            have eL8 : L8 = L1 := eL8
            subst L8
            refine lv_iinc (v := nI (k + 1)) (lv' := [(2, .int (nI (k + 1))), (4, .ref x), (0, .ref pm), (3, .int (nI (4004001 - (n + 1))))]) hx hb d_PM_lookFrom_56 hl (k := 2) rfl (nI_1 k) (by decide) rfl (fun ls hl => ?_)
            refine lv_iinc (v := nI (4004001 - n)) (lv' := [(3, .int (nI (4004001 - n))), (2, .int (nI (k + 1))), (4, .ref x), (0, .ref pm)]) hx hb d_PM_lookFrom_59 hl (k := 3) rfl (k_inc hn) (by decide) rfl (fun ls hl => ?_)
            refine lv_goto (tgt := 4) hx hb d_PM_lookFrom_62 (by decide) ?_
            exact ih (c_tk (c_put (its1, F91, pgs, F, P, T) B.2) k (.inr (.inr (.inr ia)))) (k + 1) L1 f8 H locs ls op to sa fo8 ed ys (by omega) rfl rfl (by omega) hp0 hp1 hok9 hrun hR8 hP hD hS (lv_sub hl [3, 1, 0] rfl)
      · refine lv_if_eq (tgt := 65) hx hb d_PM_lookFrom_15 (by decide) (fun _ => ?_) (fun c0 => absurd c0 (by decide))
        have hno : its1[k]? = none := List.getElem?_eq_none (by rw [← hxl]; exact k_nitem (by omega) (by omega) hq4)
        have hrun : (its1, F91, pgs, F, P, T) = SX := by rw [c_run.eq_def] at hrun; simp only [hno] at hrun; exact hrun
        subst hrun
        exact pz_vret hx hb hr hlocks hK hP hD hS (Nat.le_refl _) (Nat.le_refl _) ⟨ed, op, to, sa, fo, ys, hR⟩ d_PM_lookFrom_65
set_option maxHeartbeats 4000000 in
set_option maxRecDepth 100000 in
/-- lookFrom(k) -/
theorem c_PM_lookFrom (l : Launch) (G : gG) (L : List Nat) (f : Nat → va_E) (sz : Nat) (pm al ad el ed fr op to sa fo : Nat) (xs ys : List Nat) (its : List It) (F9 : Fr) (pgs : List (Fr × Pg)) (F : Fr) (P : Op) (T : Tt) (k : Nat) (hR : RX G L f pm al ad el ed fr op to sa fo xs ys (its, F9, pgs, F, P, T)) (hk : k ≤ its.length) (hn5 : its.length ≤ 512) (hpg : pgs.length ≤ 512) (hok9 : c_ok 4004001 (its, F9, pgs, F, P, T) k) : mV l y_PM_lookFrom w_PM_lookFrom ({ frames := 8, cells := 7 * ((c_run 4004001 (its, F9, pgs, F, P, T) k).1.2.2.1.length - pgs.length), slots := 933 * ((c_run 4004001 (its, F9, pgs, F, P, T) k).1.2.2.1.length - pgs.length), locals := 192 }) G L f sz [.ref pm, .int (nI k)] (7 * ((c_run 4004001 (its, F9, pgs, F, P, T) k).1.2.2.1.length - pgs.length)) (933 * ((c_run 4004001 (its, F9, pgs, F, P, T) k).1.2.2.1.length - pgs.length)) (fun u => ∃ ed1 op1 to1 sa1 fo1 ys1, RX G u.1 u.2 pm al ad el ed1 fr op1 to1 sa1 fo1 xs ys1 (c_run 4004001 (its, F9, pgs, F, P, T) k).1) := by
  refine pz_met (cc := prog_1_method_19_code) (maxL := 5) (ret := none) (by decide) rfl (Nat.le_of_ble_eq_true rfl) ?_
  intro p e s m below meth c ls hx hb hr hml hts hown hlocks hin hsz hK hP hD hS hA hz hl
  have htb : ∀ w ∈ TB, w.before _ s = true := fun w h => hts w (List.mem_cons_of_mem _ h)
  have hl : lv_has ls 5 [(0, .ref pm), (1, .int (nI k))] := hl
  refine W.widen (k := 7 * (pgs.length - pgs.length)) (n := 933 * (pgs.length - pgs.length)) (Nat.zero_le _) (Nat.zero_le _) ?_
  refine lv_iload_n hx hb d_PM_lookFrom_0 rfl (lv_at hl 1 rfl) ?_
  refine lv_istore_n (lv' := [(2, .int (nI k)), (0, .ref pm), (1, .int (nI k))]) hx hb d_PM_lookFrom_1 rfl hl (by decide) rfl (fun ls hl => ?_)
  refine lv_iconst (v := 0) hx hb d_PM_lookFrom_2 (by decide) ?_
  refine lv_istore_n (lv' := [(3, .int 0), (2, .int (nI k)), (0, .ref pm), (1, .int (nI k))]) hx hb d_PM_lookFrom_3 rfl hl (by decide) rfl (fun ls hl => ?_)
  exact lp_lookFrom l G L f sz pm al ad el fr k xs its F9 pgs.length _ hx hb hr hml hts hown hlocks hK hA hz hn5 4004001 _ k L f s.heap [] ls op to sa fo ed ys (Nat.le_refl _) rfl rfl hk (Nat.le_refl _) hpg hok9 rfl hR hP hD hS (lv_sub hl [2, 1, 0] rfl)
end
section
/-! PageMaker: comeIn, its constructor -/
theorem it_el {L : List Nat} {f : Nat → va_E} {x : Nat} {it : It} (h1 : x ∈ L) (h2 : f x = itE it) : elOK L f x := by
  refine ⟨h1, ?_⟩
  rcases it with ⟨ia, ib⟩ | ⟨ia, ib, io, id9⟩ | ia | ia <;> exact ⟨_, _, h2, by decide⟩
theorem xr_el {L : List Nat} {f : Nat → va_E} {xs : List Nat} {its : List It} (h : XR L f xs its) {i x : Nat} (hy : xs[i]? = some x) : elOK L f x := by
  have hi : i < xs.length := (List.getElem?_eq_some_iff.mp hy).1
  obtain ⟨h1, h2, -⟩ := h.2 i x _ hy (List.getElem?_eq_getElem (by rw [← h.1]; exact hi))
  exact it_el h1 h2
theorem xr_snoc {L : List Nat} {f : Nat → va_E} {xs : List Nat} {its : List It} {x : Nat} {it : It} (h : XR L f xs its) (hx : x ∈ L) (hfx : f x = itE it) (hok : itOK it) : XR L f (xs ++ [x]) (its ++ [it]) := by
  refine ⟨by rw [List.length_append, List.length_append, h.1]; rfl, fun i y pg h1 h2 => ?_⟩
  by_cases hi : i < xs.length
  · rw [List.getElem?_append_left hi] at h1
    rw [List.getElem?_append_left (by rw [← h.1]; exact hi)] at h2
    exact h.2 i y pg h1 h2
  · have hl : i < (xs ++ [x]).length := (List.getElem?_eq_some_iff.mp h1).1
    rw [List.length_append, List.length_singleton] at hl
    have e : i = xs.length := by omega
    subst e
    rw [List.getElem?_append_right (Nat.le_refl _), Nat.sub_self] at h1
    rw [List.getElem?_append_right (by rw [h.1]; exact Nat.le_refl _), h.1, Nat.sub_self] at h2
    cases h1
    cases h2
    exact ⟨hx, hfx, hok⟩
/-- an item is added to the list of all items -/
theorem rx_add {G : gG} {L L4 : List Nat} {f f4 : Nat → va_E} {pm al ad el ed fr op to sa fo d4 x : Nat} {xs ys : List Nat} {S : CS} {it : It} (h : RX G L f pm al ad el ed fr op to sa fo xs ys S) (hx : x ∈ L) (hfx : f x = itE it) (hok : itOK it) (h4 : LR G L4 f4 al d4 (xs ++ [x])) (hd4 : (xs ≠ [] ∧ d4 = ad ∧ ad ∈ L ∧ L4 = L ∧ ∃ (cap : Nat) (a : Nat → Option Nat), f ad = .inl (cO G, cap, .inr (.inr (.inr (.inr a))))) ∨ (d4 ∉ L ∧ L4 = L ++ [d4])) (hk4 : ∀ z, z ≠ al → z ≠ d4 → f4 z = f z) : RX G L4 f4 pm al d4 el ed fr op to sa fo (xs ++ [x]) ys (S.1 ++ [it], S.2.1, S.2.2.1, S.2.2.2.1, S.2.2.2.2.1, S.2.2.2.2.2) := by
  obtain ⟨a1, a2, a3, a4, a5, a6, a7, a8, a9, b1, b2, b3, b4, b5, b6, b7, b8, b9⟩ := h
  have hsub := rz_sub hd4
  have kp : ∀ z, z ∈ L → tg (f z) ≠ 0 → tg (f z) ≠ 104 → f4 z = f z := fun z hz z1 z2 => hk4 z (tg_ne rfl (lr_tg a3).2 z1) (rz_nd hd4 hz z2)
  have kp2 : ∀ z j, z ∈ L → tg (f z) = j → j ≠ 0 → j ≠ 104 → f4 z = f z := fun z j hz e q1 q2 => kp z hz (by rw [e]; exact q1) (by rw [e]; exact q2)
  refine ⟨hsub _ a1, (kp2 pm 4 a1 (by rw [a2]; rfl) (by decide) (by decide)).trans a2, h4, rz_al (fun h1 h2 => Ne.symm (a6 h2 h1)) a4 a3 a3 (Ne.symm a5) hd4 (fun _ h => h) hsub (fun _ _ => rfl) hk4 (fun _ _ _ => rfl), a5, fun h1 h2 => Ne.symm (rz_dd (q := 0) (fun h1 h2 => Ne.symm (a6 h2 h1)) a4 hd4 (fun _ h => h) h2 (List.append_ne_nil_of_right_ne_nil _ (List.cons_ne_nil _ _))), ?_, yr_keep a8 hsub (fun z hz q => kp z hz (by omega) (by omega)), hsub _ a9, (kp2 fr 1 a9 (by rw [b1]; rfl) (by decide) (by decide)).trans b1, hsub _ b2, (kp2 op 2 b2 (by rw [b3]; rfl) (by decide) (by decide)).trans b3, hsub _ b4, (kp2 to 3 b4 (by rw [b5]; rfl) (by decide) (by decide)).trans b5, hsub _ b6, (kp2 sa 101 b6 (by rw [b7]; rfl) (by decide) (by decide)).trans b7, hsub _ b8, (kp2 fo 1 b8 (by rw [b9]; rfl) (by decide) (by decide)).trans b9⟩
  have t := tg_it it
  rw [← hfx] at t
  exact xr_snoc (xr_keep a7 hsub (fun z hz q1 q2 => kp z hz (by omega) (by omega))) (hsub _ hx) ((kp x hx (by omega) (by omega)).trans hfx) hok
theorem k_c1 (a b : Nat) : 0 + a ≤ a + b := by omega
theorem k_c3 (a b : Nat) : 0 + a + b ≤ a + b := by omega
theorem k_c4 (a b : Nat) : 0 + a + b + 0 ≤ a + b := by omega
theorem k_c2 (a b : Nat) : 0 + a + 0 ≤ a + b := by omega
/-- a new PageMaker -/
def c_0 : CS := ([], (42152922, 655360, 262144), [], (42152922, 655360, 262144), op_0, t_0)
set_option maxHeartbeats 4000000 in
set_option maxRecDepth 100000 in
/-- comeIn(x) -/
theorem c_PM_comeIn (l : Launch) (G : gG) (L : List Nat) (f : Nat → va_E) (sz : Nat) (pm al ad el ed fr op to sa fo : Nat) (xs ys : List Nat) (its : List It) (F9 : Fr) (pgs : List (Fr × Pg)) (F : Fr) (P : Op) (T : Tt) (x : Nat) (it : It) (hR : RX G L f pm al ad el ed fr op to sa fo xs ys (its, F9, pgs, F, P, T)) (hxL : x ∈ L) (hfx : f x = itE it) (hok : itOK it) (hn5 : its.length < 512) (hpg : pgs.length ≤ 512) (hok9 : c_ok 4004001 (its ++ [it], F9, pgs, F, P, T) its.length) : mI l y_PM_comeIn w_PM_comeIn ({ frames := 9, cells := 1 + 7 * ((c_run 4004001 (its ++ [it], F9, pgs, F, P, T) its.length).1.2.2.1.length - pgs.length), slots := 900 + 933 * ((c_run 4004001 (its ++ [it], F9, pgs, F, P, T) its.length).1.2.2.1.length - pgs.length), locals := 216 }) G L f sz [.ref pm, .ref x] (1 + 7 * ((c_run 4004001 (its ++ [it], F9, pgs, F, P, T) its.length).1.2.2.1.length - pgs.length)) (900 + 933 * ((c_run 4004001 (its ++ [it], F9, pgs, F, P, T) its.length).1.2.2.1.length - pgs.length)) (fun r u => r = nI (c_run 4004001 (its ++ [it], F9, pgs, F, P, T) its.length).1.2.2.1.length ∧ ∃ ad1 ed1 op1 to1 sa1 fo1 ys1, RX G u.1 u.2 pm al ad1 el ed1 fr op1 to1 sa1 fo1 (xs ++ [x]) ys1 (c_run 4004001 (its ++ [it], F9, pgs, F, P, T) its.length).1) := by
  refine pz_met (cc := prog_1_method_18_code) (maxL := 2) (ret := (some .int)) (by decide) rfl (Nat.le_of_ble_eq_true rfl) ?_
  intro p e s m below meth c ls hx hb hr hml hts hown hlocks hin hsz hK hP hD hS hA hz hl
  have htb : ∀ w ∈ TB, w.before _ s = true := fun w h => hts w (List.mem_cons_of_mem _ h)
  have hl : lv_has ls 2 [(0, .ref pm), (1, .ref x)] := hl
  obtain ⟨hp, hfp, h_al, h_el, hne9, hdd, hX, hY, hr9, hfr, ho, hfo, ht, hft, hs9, hsa, hr8, hfof⟩ := id hR
  have hX : XR L f xs its := hX
  have hY : YR L f ys pgs := hY
  have hfr : f fr = frE F9 := hfr
  have hfo : f op = opE to fo P := hfo
  have hft : f to = toE sa T := hft
  have hsa : f sa = saE G T := hsa
  have hfof : f fo = frE F := hfof
  obtain ⟨mo_al, hm_al, hc_al, -⟩ := id h_al
  obtain ⟨mo_el, hm_el, hc_el, -⟩ := id h_el
  have hxl : xs.length = its.length := hX.1
  refine lv_aload_n hx hb d_PM_comeIn_0 rfl (lv_at hl 0 rfl) ?_
  refine pz_get (ci := 4) (C := "PageMaker") (T := T_PM) (N := 4) hx hb htb in_PM hown hK hP hp hfp rfl 0 (by decide) (htb _ tw_160) (fun _ h9 => h9) rfl d_PM_comeIn_1 ?_
  refine lv_aload_n hx hb d_PM_comeIn_4 rfl (lv_at hl 1 rfl) ?_
  refine pz_ci (va_runV (As := [.ref x]) (rest := []) ⟨hx, hb, hml, hown, hts⟩ (al_add l G L f _ al ad xs x h_al (by omega) (fun i y hy => xr_el hX hy) (it_el hxL hfx)) (cwV 1 hts (tb_V tw_320 tw_321 tw_322 tw_4 tw_323) rfl rfl rfl (by decide +kernel) ⟨(Nat.le_of_ble_eq_true rfl), (Nat.le_of_ble_eq_true rfl)⟩) (pz_preV (zz_ok _ _ _) hK hP hD hS hA hz (ci := 0) rfl rfl hm_al hc_al) rfl rfl hl.1 rfl (lv_room (Nat.le_of_ble_eq_true rfl)) d_PM_comeIn_5 ⟨(k_c1 _ _), (k_c1 _ _)⟩) hP hD hS hA (fun r4 L4 f4 H locs hw hP hD hS => ?_)
  obtain ⟨-, d4, h_al4, hd4, hk4⟩ := hw
  have hR4 : RX G L4 f4 pm al d4 el ed fr op to sa fo (xs ++ [x]) ys (its ++ [it], F9, pgs, F, P, T) := rx_add hR hxL hfx hok h_al4 hd4 hk4
  obtain ⟨hp4, hfp4, h_al5, -⟩ := id hR4
  obtain ⟨mo_4, hm_4, hc_4, -⟩ := id h_al5
  refine lv_pop hx hb d_PM_comeIn_8 rfl ?_
  refine lv_aload_n hx hb d_PM_comeIn_9 rfl (lv_at hl 0 rfl) ?_
  refine lv_aload_n hx hb d_PM_comeIn_10 rfl (lv_at hl 0 rfl) ?_
  refine pz_get (ci := 4) (C := "PageMaker") (T := T_PM) (N := 4) hx hb htb in_PM hown hK hP hp4 hfp4 rfl 0 (by decide) (htb _ tw_160) (fun _ h9 => h9) rfl d_PM_comeIn_11 ?_
  refine vp_callSi (va_Run.run (va_runV (As := []) (rest := [.ref pm]) ⟨hx, hb, hml, hown, hts⟩ (al_size l G L4 f4 _ al d4 (xs ++ [x]) h_al5) (cwV 0 hts (tb_V tw_177 tw_178 tw_179 tw_4 tw_180) rfl rfl rfl (by decide +kernel) ⟨(Nat.le_of_ble_eq_true rfl), (Nat.le_of_ble_eq_true rfl)⟩) (pz_preV (zz_ok _ _ _) hK hP hD hS hA hz (ci := 0) rfl rfl hm_4 hc_4) rfl rfl hl.1 rfl (lv_room (Nat.le_of_ble_eq_true rfl)) d_PM_comeIn_14 ⟨(k_c2 1 _), (k_c2 900 _)⟩)) (fun r1 hw => ?_)
  have hw : r1 = nI (xs ++ [x]).length := hw
  subst r1
  refine lv_iconst (v := 1) hx hb d_PM_comeIn_17 (by decide) ?_
  refine lv_isub hx hb d_PM_comeIn_18 ?_
  refine lv_topi (fun x2 ex2 => ?_)
  have ex2 : x2 = nI its.length := ex2.trans (by rw [List.length_append, List.length_singleton, hxl]; exact nI_pred _)
  subst ex2
  refine pz_cv (va_runV (As := [.int (nI its.length)]) (rest := []) ⟨hx, hb, hml, hown, hts⟩ (c_PM_lookFrom l G L4 f4 _ pm al d4 el ed fr op to sa fo (xs ++ [x]) ys (its ++ [it]) F9 pgs F P T its.length hR4 (by rw [List.length_append]; omega) (by rw [List.length_append, List.length_singleton]; omega) hpg hok9) (cwV 1 hts (tb_V tw_381 tw_383 tp_6 tw_1 tw_384) rfl rfl rfl (by decide +kernel) ⟨(Nat.le_of_ble_eq_true rfl), (Nat.le_of_ble_eq_true rfl)⟩) (pz_preV (zz_ok _ _ _) hK hP hD hS hA hz (ci := 4) rfl rfl hp4 hfp4) rfl rfl hl.1 rfl (lv_room (Nat.le_of_ble_eq_true rfl)) d_PM_comeIn_19 ⟨(k_c3 1 _), (k_c3 900 _)⟩) hP hD hS hA (fun L5 f5 H locs hw hP hD hS => ?_)
  obtain ⟨ed1, op1, to1, sa1, fo1, ys1, hR5⟩ := hw
  obtain ⟨hp5, hfp5, -, h_el5, -, -, -, hY5, -⟩ := id hR5
  obtain ⟨mo_5, hm_5, hc_5, -⟩ := id h_el5
  have hyl : ys1.length = (c_run 4004001 (its ++ [it], F9, pgs, F, P, T) its.length).1.2.2.1.length := hY5.1
  refine lv_aload_n hx hb d_PM_comeIn_22 rfl (lv_at hl 0 rfl) ?_
  refine pz_get (ci := 4) (C := "PageMaker") (T := T_PM) (N := 4) hx hb htb in_PM hown hK hP hp5 hfp5 rfl 1 (by decide) (htb _ tw_161) (fun _ h9 => h9) rfl d_PM_comeIn_23 ?_
  refine vp_callSi (va_Run.run (va_runV (As := []) (rest := []) ⟨hx, hb, hml, hown, hts⟩ (al_size l G L5 f5 _ el ed1 ys1 h_el5) (cwV 0 hts (tb_V tw_177 tw_178 tw_179 tw_4 tw_180) rfl rfl rfl (by decide +kernel) ⟨(Nat.le_of_ble_eq_true rfl), (Nat.le_of_ble_eq_true rfl)⟩) (pz_preV (zz_ok _ _ _) hK hP hD hS hA hz (ci := 0) rfl rfl hm_5 hc_5) rfl rfl hl.1 rfl (lv_room (Nat.le_of_ble_eq_true rfl)) d_PM_comeIn_26 ⟨(k_c4 1 _), (k_c4 900 _)⟩)) (fun r3 hw => ?_)
  have hw : r3 = nI ys1.length := hw
  subst r3
  exact pz_iret hx hb hr rfl hlocks hK hP hD hS (k_c3 1 _) (k_c3 900 _) ⟨by rw [← hyl], d4, ed1, op1, to1, sa1, fo1, ys1, hR5⟩ d_PM_comeIn_29
set_option maxHeartbeats 4000000 in
set_option maxRecDepth 100000 in
/-- PageMaker() -/
theorem c_PM_init (l : Launch) (G : gG) (L : List Nat) (f : Nat → va_E) (sz : Nat) (pm : Nat) (hp : pm ∈ L) (hfp : f pm = .inr (4, [.null, .null, .null, .null])) : mV l y_PM_init w_PM_init ({ frames := 4, cells := 6, slots := 25, locals := 80 }) G L f sz [.ref pm] 6 25 (fun u => ∃ al el fr op to sa, RX G u.1 u.2 pm al G.2.2.1 el G.2.2.1 fr op to sa fr [] [] c_0) := by
  refine pz_met (cc := prog_1_method_1_code) (maxL := 1) (ret := none) (by decide) rfl (Nat.le_of_ble_eq_true rfl) ?_
  intro p e s m below meth c ls hx hb hr hml hts hown hlocks hin hsz hK hP hD hS hA hz hl
  have htb : ∀ w ∈ TB, w.before _ s = true := fun w h => hts w (List.mem_cons_of_mem _ h)
  have hl : lv_has ls 1 [(0, .ref pm)] := hl
  refine lv_aload_n hx hb d_PM_init_0 rfl (lv_at hl 0 rfl) ?_
  refine W.objInit hx hb hown (htb _ tw_32) (htb _ tw_33) (htb _ tw_34) rfl (by rw [hml]; exact hl.1) rfl d_PM_init_1 (Nat.le_of_ble_eq_true rfl) (Nat.le_of_ble_eq_true rfl) ?_
  refine W.eq (g2 := F0 m 4 ls []) rfl ?_
  refine lv_aload_n hx hb d_PM_init_4 rfl (lv_at hl 0 rfl) ?_
  refine pz_new (ci := 0) (fs := [.int 0, .null, .int 0]) (C := "java/util/ArrayList") (T := T_AL) (N := 3) hx hb htb in_AL ty_AL to_AL hown (htb _ tw_35) (htb _ tw_36) (htb _ tw_4) hK hP hD hS hA rfl (fun j hj => by rcases (show j = 0 ∨ j = 1 ∨ j = 2 by omega) with rfl | rfl | rfl <;> rfl) (Nat.le_of_ble_eq_true rfl) (Nat.le_of_ble_eq_true rfl) d_PM_init_5 (fun q1 L2 f3 H hnq1 eL2 ef3 hP hD hS => ?_)
  subst L2
  refine lv_dup hx hb d_PM_init_8 rfl ?_
  have h_4 : f3 q1 = .inr (0, [.int 0, .null, .int 0]) := by rw [ef3]; exact va_up_self _ _ _
  refine pz_cv (va_runI (As := []) (rest := [.ref q1, .ref pm]) ⟨hx, hb, hml, hown, hts⟩ (c_AL_init l G (L ++ [q1]) f3 _ q1 0 0 (l_in_new _ _) h_4) (cwI 0 hts (tb_good tw_39) rfl rfl rfl (htb _ tw_4) (htb _ tw_37) (htb _ tw_38) rfl (by decide +kernel) ⟨(Nat.le_of_ble_eq_true rfl), (Nat.le_of_ble_eq_true rfl)⟩) (pz_pre (zz_ok _ _ _) hK hP hD hS hA hz) rfl rfl hl.1 rfl (lv_room (Nat.le_of_ble_eq_true rfl)) d_PM_init_9 ⟨(Nat.le_of_ble_eq_true rfl), (Nat.le_of_ble_eq_true rfl)⟩) hP hD hS hA (fun L6 f5 H locs hw hP hD hS => ?_)
  have ef5 : f5 = va_up (f3) q1 (.inr (0, [.int 0, .ref G.2.2.1, .int 0])) := (Prod.mk.inj hw).2
  have eL6 : L6 = (L ++ [q1]) := (Prod.mk.inj hw).1
  subst L6
  have h_8 : f3 pm = .inr (4, [.null, .null, .null, .null]) := by rw [ef3, va_up_ne _ _ (Ne.symm (pz_nef hnq1 hp))]; exact hfp
  have h_7 : f5 pm = .inr (4, [.null, .null, .null, .null]) := by rw [ef5, va_up_ne _ _ (Ne.symm (pz_nef hnq1 hp))]; exact h_8
  refine pz_putF (ci := 4) (v := .ref q1) (ty := .object "java/util/ArrayList") (C := "PageMaker") (T := T_PM) (N := 4) hx hb htb in_PM ty_PM to_PM nm_PM hown hK hP hD hS (List.mem_append_left _ hp) h_7 rfl 0 (by decide) (htb _ tw_160) (fun _ h9 => h9) rfl hin rfl rfl rfl rfl (Nat.le_of_ble_eq_true rfl) d_PM_init_12 (fun f9 H locs ef9 hP hD hS => ?_)
  have ef9 : f9 = va_up f5 pm (.inr (4, [.ref q1, .null, .null, .null])) := ef9
  refine lv_aload_n hx hb d_PM_init_15 rfl (lv_at hl 0 rfl) ?_
  refine pz_new (ci := 0) (fs := [.int 0, .null, .int 0]) (C := "java/util/ArrayList") (T := T_AL) (N := 3) hx hb htb in_AL ty_AL to_AL hown (htb _ tw_35) (htb _ tw_36) (htb _ tw_4) hK hP hD hS hA rfl (fun j hj => by rcases (show j = 0 ∨ j = 1 ∨ j = 2 by omega) with rfl | rfl | rfl <;> rfl) (Nat.le_of_ble_eq_true rfl) (Nat.le_of_ble_eq_true rfl) d_PM_init_16 (fun q10 L11 f12 H hnq10 eL11 ef12 hP hD hS => ?_)
  subst L11
  refine lv_dup hx hb d_PM_init_19 rfl ?_
  have h_13 : f12 q10 = .inr (0, [.int 0, .null, .int 0]) := by rw [ef12]; exact va_up_self _ _ _
  refine pz_cv (va_runI (As := []) (rest := [.ref q10, .ref pm]) ⟨hx, hb, hml, hown, hts⟩ (c_AL_init l G ((L ++ [q1]) ++ [q10]) f12 _ q10 0 0 (l_in_new _ _) h_13) (cwI 0 hts (tb_good tw_39) rfl rfl rfl (htb _ tw_4) (htb _ tw_37) (htb _ tw_38) rfl (by decide +kernel) ⟨(Nat.le_of_ble_eq_true rfl), (Nat.le_of_ble_eq_true rfl)⟩) (pz_pre (zz_ok _ _ _) hK hP hD hS hA hz) rfl rfl hl.1 rfl (lv_room (Nat.le_of_ble_eq_true rfl)) d_PM_init_20 ⟨(Nat.le_of_ble_eq_true rfl), (Nat.le_of_ble_eq_true rfl)⟩) hP hD hS hA (fun L15 f14 H locs hw hP hD hS => ?_)
  have ef14 : f14 = va_up (f12) q10 (.inr (0, [.int 0, .ref G.2.2.1, .int 0])) := (Prod.mk.inj hw).2
  have eL15 : L15 = ((L ++ [q1]) ++ [q10]) := (Prod.mk.inj hw).1
  subst L15
  have h_18 : f9 pm = .inr (4, [.ref q1, .null, .null, .null]) := by rw [ef9]; exact va_up_self _ _ _
  have h_17 : f12 pm = .inr (4, [.ref q1, .null, .null, .null]) := by rw [ef12, va_up_ne _ _ (Ne.symm (pz_nef hnq10 (List.mem_append_left _ hp)))]; exact h_18
  have h_16 : f14 pm = .inr (4, [.ref q1, .null, .null, .null]) := by rw [ef14, va_up_ne _ _ (Ne.symm (pz_nef hnq10 (List.mem_append_left _ hp)))]; exact h_17
  refine pz_putF (ci := 4) (v := .ref q10) (ty := .object "java/util/ArrayList") (C := "PageMaker") (T := T_PM) (N := 4) hx hb htb in_PM ty_PM to_PM nm_PM hown hK hP hD hS (List.mem_append_left _ (List.mem_append_left _ hp)) h_16 rfl 1 (by decide) (htb _ tw_161) (fun _ h9 => h9) rfl hin rfl rfl rfl rfl (Nat.le_of_ble_eq_true rfl) d_PM_init_23 (fun f19 H locs ef19 hP hD hS => ?_)
  have ef19 : f19 = va_up f14 pm (.inr (4, [.ref q1, .ref q10, .null, .null])) := ef19
  refine lv_aload_n hx hb d_PM_init_26 rfl (lv_at hl 0 rfl) ?_
  refine pz_new (ci := 1) (fs := [.int 0, .int 0, .int 0]) (C := "PageMaker$Frame") (T := T_FR) (N := 3) hx hb htb in_FR ty_FR to_FR hown (htb _ tw_61) (htb _ tw_62) (htb _ tw_5) hK hP hD hS hA rfl (fun j hj => by rcases (show j = 0 ∨ j = 1 ∨ j = 2 by omega) with rfl | rfl | rfl <;> rfl) (Nat.le_of_ble_eq_true rfl) (Nat.le_of_ble_eq_true rfl) d_PM_init_27 (fun q20 L21 f22 H hnq20 eL21 ef22 hP hD hS => ?_)
  subst L21
  refine lv_dup hx hb d_PM_init_30 rfl ?_
  refine lv_ldc (v := 42152922) hx hb hown (htb _ tw_63) d_PM_init_31 ?_
  refine lv_ldc (v := 655360) hx hb hown (htb _ tw_64) d_PM_init_33 ?_
  refine lv_ldc (v := 262144) hx hb hown (htb _ tw_65) d_PM_init_35 ?_
  have h_23 : f22 q20 = .inr (1, [.int 0, .int 0, .int 0]) := by rw [ef22]; exact va_up_self _ _ _
  refine pz_cv (va_runI (As := [.int 42152922, .int 655360, .int 262144]) (rest := [.ref q20, .ref pm]) ⟨hx, hb, hml, hown, hts⟩ (c_FR_init l G (((L ++ [q1]) ++ [q10]) ++ [q20]) f22 _ q20 42152922 655360 262144 0 0 0 (l_in_new _ _) h_23) (cwI 3 hts (tb_good tw_68) rfl rfl rfl (htb _ tw_5) (htb _ tw_66) (htb _ tw_67) rfl (by decide +kernel) ⟨(Nat.le_of_ble_eq_true rfl), (Nat.le_of_ble_eq_true rfl)⟩) (pz_pre (zz_ok _ _ _) hK hP hD hS hA hz) rfl rfl hl.1 rfl (lv_room (Nat.le_of_ble_eq_true rfl)) d_PM_init_37 ⟨(Nat.le_of_ble_eq_true rfl), (Nat.le_of_ble_eq_true rfl)⟩) hP hD hS hA (fun L25 f24 H locs hw hP hD hS => ?_)
  have ef24 : f24 = va_up (f22) q20 (.inr (1, [.int (42152922), .int (655360), .int (262144)])) := (Prod.mk.inj hw).2
  have eL25 : L25 = (((L ++ [q1]) ++ [q10]) ++ [q20]) := (Prod.mk.inj hw).1
  subst L25
  have h_28 : f19 pm = .inr (4, [.ref q1, .ref q10, .null, .null]) := by rw [ef19]; exact va_up_self _ _ _
  have h_27 : f22 pm = .inr (4, [.ref q1, .ref q10, .null, .null]) := by rw [ef22, va_up_ne _ _ (Ne.symm (pz_nef hnq20 (List.mem_append_left _ (List.mem_append_left _ hp))))]; exact h_28
  have h_26 : f24 pm = .inr (4, [.ref q1, .ref q10, .null, .null]) := by rw [ef24, va_up_ne _ _ (Ne.symm (pz_nef hnq20 (List.mem_append_left _ (List.mem_append_left _ hp))))]; exact h_27
  refine pz_put (ci := 4) (v := .ref q20) (ty := .object "PageMaker$Frame") (C := "PageMaker") (T := T_PM) (N := 4) hx hb htb in_PM ty_PM to_PM nm_PM hown hK hP hD hS (List.mem_append_left _ (List.mem_append_left _ (List.mem_append_left _ hp))) h_26 rfl 2 (by decide) (htb _ tw_162) (fun _ h9 => h9) rfl rfl rfl rfl (Nat.le_of_ble_eq_true rfl) d_PM_init_40 (fun f29 H locs ef29 hP hD hS => ?_)
  have ef29 : f29 = va_up f24 pm (.inr (4, [.ref q1, .ref q10, .ref q20, .null])) := ef29
  refine lv_aload_n hx hb d_PM_init_43 rfl (lv_at hl 0 rfl) ?_
  refine pz_new (ci := 2) (fs := [.null, .null, .int 0, .long 0, .int 0, .int 0, .int 0, .int 0]) (C := "PageMaker$OpenPage") (T := T_OP) (N := 8) hx hb htb in_OP ty_OP to_OP hown (htb _ tw_84) (htb _ tw_85) (htb _ tw_6) hK hP hD hS hA rfl (fun j hj => by rcases (show j = 0 ∨ j = 1 ∨ j = 2 ∨ j = 3 ∨ j = 4 ∨ j = 5 ∨ j = 6 ∨ j = 7 by omega) with rfl | rfl | rfl | rfl | rfl | rfl | rfl | rfl <;> rfl) (Nat.le_of_ble_eq_true rfl) (Nat.le_of_ble_eq_true rfl) d_PM_init_44 (fun q30 L31 f32 H hnq30 eL31 ef32 hP hD hS => ?_)
  subst L31
  refine lv_dup hx hb d_PM_init_47 rfl ?_
  refine lv_aload_n hx hb d_PM_init_48 rfl (lv_at hl 0 rfl) ?_
  have h_34 : f29 pm = .inr (4, [.ref q1, .ref q10, .ref q20, .null]) := by rw [ef29]; exact va_up_self _ _ _
  have h_33 : f32 pm = .inr (4, [.ref q1, .ref q10, .ref q20, .null]) := by rw [ef32, va_up_ne _ _ (Ne.symm (pz_nef hnq30 (List.mem_append_left _ (List.mem_append_left _ (List.mem_append_left _ hp)))))]; exact h_34
  refine pz_get (ci := 4) (C := "PageMaker") (T := T_PM) (N := 4) hx hb htb in_PM hown hK hP (List.mem_append_left _ (List.mem_append_left _ (List.mem_append_left _ (List.mem_append_left _ hp)))) h_33 rfl 2 (by decide) (htb _ tw_162) (fun _ h9 => h9) rfl d_PM_init_49 ?_
  have h_35 : f32 q30 = .inr (2, [.null, .null, .int 0, .long 0, .int 0, .int 0, .int 0, .int 0]) := by rw [ef32]; exact va_up_self _ _ _
  have h_44 : f5 q1 = .inr (0, [.int 0, .ref G.2.2.1, .int 0]) := by rw [ef5]; exact va_up_self _ _ _
  have h_43 : f9 q1 = .inr (0, [.int 0, .ref G.2.2.1, .int 0]) := by rw [ef9, va_up_ne _ _ (pz_nef hnq1 hp)]; exact h_44
  have h_42 : f12 q1 = .inr (0, [.int 0, .ref G.2.2.1, .int 0]) := by rw [ef12, va_up_ne _ _ (Ne.symm (pz_nef hnq10 (l_in_new _ _)))]; exact h_43
  have h_41 : f14 q1 = .inr (0, [.int 0, .ref G.2.2.1, .int 0]) := by rw [ef14, va_up_ne _ _ (Ne.symm (pz_nef hnq10 (l_in_new _ _)))]; exact h_42
  have h_40 : f19 q1 = .inr (0, [.int 0, .ref G.2.2.1, .int 0]) := by rw [ef19, va_up_ne _ _ (pz_nef hnq1 hp)]; exact h_41
  have h_39 : f22 q1 = .inr (0, [.int 0, .ref G.2.2.1, .int 0]) := by rw [ef22, va_up_ne _ _ (Ne.symm (pz_nef hnq20 (List.mem_append_left _ (l_in_new _ _))))]; exact h_40
  have h_38 : f24 q1 = .inr (0, [.int 0, .ref G.2.2.1, .int 0]) := by rw [ef24, va_up_ne _ _ (Ne.symm (pz_nef hnq20 (List.mem_append_left _ (l_in_new _ _))))]; exact h_39
  have h_37 : f29 q1 = .inr (0, [.int 0, .ref G.2.2.1, .int 0]) := by rw [ef29, va_up_ne _ _ (pz_nef hnq1 hp)]; exact h_38
  have h_36 : f32 q1 = .inr (0, [.int 0, .ref G.2.2.1, .int 0]) := by rw [ef32, va_up_ne _ _ (Ne.symm (pz_nef hnq30 (List.mem_append_left _ (List.mem_append_left _ (l_in_new _ _)))))]; exact h_37
  have h_50 : f14 q10 = .inr (0, [.int 0, .ref G.2.2.1, .int 0]) := by rw [ef14]; exact va_up_self _ _ _
  have h_49 : f19 q10 = .inr (0, [.int 0, .ref G.2.2.1, .int 0]) := by rw [ef19, va_up_ne _ _ (pz_nef hnq10 (List.mem_append_left _ hp))]; exact h_50
  have h_48 : f22 q10 = .inr (0, [.int 0, .ref G.2.2.1, .int 0]) := by rw [ef22, va_up_ne _ _ (Ne.symm (pz_nef hnq20 (l_in_new _ _)))]; exact h_49
  have h_47 : f24 q10 = .inr (0, [.int 0, .ref G.2.2.1, .int 0]) := by rw [ef24, va_up_ne _ _ (Ne.symm (pz_nef hnq20 (l_in_new _ _)))]; exact h_48
  have h_46 : f29 q10 = .inr (0, [.int 0, .ref G.2.2.1, .int 0]) := by rw [ef29, va_up_ne _ _ (pz_nef hnq10 (List.mem_append_left _ hp))]; exact h_47
  have h_45 : f32 q10 = .inr (0, [.int 0, .ref G.2.2.1, .int 0]) := by rw [ef32, va_up_ne _ _ (Ne.symm (pz_nef hnq30 (List.mem_append_left _ (l_in_new _ _))))]; exact h_46
  have h_53 : f24 q20 = .inr (1, [.int 42152922, .int 655360, .int 262144]) := by rw [ef24]; exact va_up_self _ _ _
  have h_52 : f29 q20 = .inr (1, [.int 42152922, .int 655360, .int 262144]) := by rw [ef29, va_up_ne _ _ (pz_nef hnq20 (List.mem_append_left _ (List.mem_append_left _ hp)))]; exact h_53
  have h_51 : f32 q20 = .inr (1, [.int 42152922, .int 655360, .int 262144]) := by rw [ef32, va_up_ne _ _ (Ne.symm (pz_nef hnq30 (l_in_new _ _)))]; exact h_52
  refine pz_cv (va_runI (As := [.ref q20]) (rest := [.ref q30, .ref pm]) ⟨hx, hb, hml, hown, hts⟩ (c_OP_init l G ((((L ++ [q1]) ++ [q10]) ++ [q20]) ++ [q30]) f32 _ q30 q20 0 0 0 0 0 0 (l_in_new _ _) h_35 (List.mem_append_left _ (l_in_new _ _))) (cwI 1 hts (tb_good tw_88) rfl rfl rfl (htb _ tw_6) (htb _ tw_86) (htb _ tw_87) rfl (by decide +kernel) ⟨(Nat.le_of_ble_eq_true rfl), (Nat.le_of_ble_eq_true rfl)⟩) (pz_pre (zz_ok _ _ _) hK hP hD hS hA hz) rfl rfl hl.1 rfl (lv_room (Nat.le_of_ble_eq_true rfl)) d_PM_init_52 ⟨(Nat.le_of_ble_eq_true rfl), (Nat.le_of_ble_eq_true rfl)⟩) hP hD hS hA (fun L6 f6 H locs hw hP hD hS => ?_)
  obtain ⟨to6, sa6, hnt6, hns6, hts6, hw⟩ := hw
  have eL6 : L6 = ((((L ++ [q1]) ++ [q10]) ++ [q20]) ++ [q30]) ++ [to6] ++ [sa6] := (Prod.mk.inj hw).1
  have ef6 : f6 = va_up (va_up (va_up f32 sa6 (saE G t_0)) to6 (toE sa6 t_0)) q30 (opE to6 q20 op_0) := (Prod.mk.inj hw).2
  subst L6
  have hsub6 : ∀ z, z ∈ ((((L ++ [q1]) ++ [q10]) ++ [q20]) ++ [q30]) → z ∈ (((((L ++ [q1]) ++ [q10]) ++ [q20]) ++ [q30]) ++ [to6] ++ [sa6]) := fun z hz => List.mem_append_left _ (List.mem_append_left _ hz)
  have hold6 : ∀ z, z ∈ ((((L ++ [q1]) ++ [q10]) ++ [q20]) ++ [q30]) → z ≠ q30 → f6 z = f32 z := fun z hz z1 => by rw [ef6, va_up_ne _ _ z1, va_up_ne _ _ (Ne.symm (pz_nef hnt6 hz)), va_up_ne _ _ (Ne.symm (pz_nef hns6 hz))]
  have hfo6 : f6 q30 = opE to6 q20 op_0 := by rw [ef6]; exact va_up_self _ _ _
  have hto6 : f6 to6 = toE sa6 t_0 := by rw [ef6, va_up_ne _ _ (pz_nef hnt6 (l_in_new _ _))]; exact va_up_self _ _ _
  have hsa6 : f6 sa6 = saE G t_0 := by rw [ef6, va_up_ne _ _ (pz_nef hns6 (l_in_new _ _)), va_up_ne _ _ (Ne.symm hts6)]; exact va_up_self _ _ _
  have g_54 : f6 pm = .inr (4, [.ref q1, .ref q10, .ref q20, .null]) := (hold6 _ (List.mem_append_left _ (List.mem_append_left _ (List.mem_append_left _ (List.mem_append_left _ hp)))) (Ne.symm (pz_nef hnq30 (List.mem_append_left _ (List.mem_append_left _ (List.mem_append_left _ hp)))))).trans h_33
  have g_55 : f6 q1 = .inr (0, [.int 0, .ref G.2.2.1, .int 0]) := (hold6 _ (List.mem_append_left _ (List.mem_append_left _ (List.mem_append_left _ (l_in_new _ _)))) (Ne.symm (pz_nef hnq30 (List.mem_append_left _ (List.mem_append_left _ (l_in_new _ _)))))).trans h_36
  have g_56 : f6 q10 = .inr (0, [.int 0, .ref G.2.2.1, .int 0]) := (hold6 _ (List.mem_append_left _ (List.mem_append_left _ (l_in_new _ _))) (Ne.symm (pz_nef hnq30 (List.mem_append_left _ (l_in_new _ _))))).trans h_45
  have g_57 : f6 q20 = .inr (1, [.int 42152922, .int 655360, .int 262144]) := (hold6 _ (List.mem_append_left _ (l_in_new _ _)) (Ne.symm (pz_nef hnq30 (l_in_new _ _)))).trans h_51
  refine pz_put (ci := 4) (v := .ref q30) (ty := .object "PageMaker$OpenPage") (C := "PageMaker") (T := T_PM) (N := 4) hx hb htb in_PM ty_PM to_PM nm_PM hown hK hP hD hS (hsub6 _ (List.mem_append_left _ (List.mem_append_left _ (List.mem_append_left _ (List.mem_append_left _ hp))))) g_54 rfl 3 (by decide) (htb _ tw_163) (fun _ h9 => h9) rfl rfl rfl rfl (Nat.le_of_ble_eq_true rfl) d_PM_init_55 (fun f58 H locs ef58 hP hD hS => ?_)
  have ef58 : f58 = va_up f6 pm (.inr (4, [.ref q1, .ref q10, .ref q20, .ref q30])) := ef58
  have h_59 : f58 pm = .inr (4, [.ref q1, .ref q10, .ref q20, .ref q30]) := by rw [ef58]; exact va_up_self _ _ _
  have h_60 : f58 q1 = .inr (0, [.int 0, .ref G.2.2.1, .int 0]) := by rw [ef58, va_up_ne _ _ (pz_nef hnq1 hp)]; exact g_55
  have h_61 : f58 q10 = .inr (0, [.int 0, .ref G.2.2.1, .int 0]) := by rw [ef58, va_up_ne _ _ (pz_nef hnq10 (List.mem_append_left _ hp))]; exact g_56
  have h_62 : f58 q20 = .inr (1, [.int 42152922, .int 655360, .int 262144]) := by rw [ef58, va_up_ne _ _ (pz_nef hnq20 (List.mem_append_left _ (List.mem_append_left _ hp)))]; exact g_57
  have h_63 : f58 q30 = .inr (2, [.ref to6, .ref q20, .int op_0.1, .long op_0.2.1, .int op_0.2.2.1, .int op_0.2.2.2.1, .int op_0.2.2.2.2.1, .int op_0.2.2.2.2.2]) := by rw [ef58, va_up_ne _ _ (pz_nef hnq30 (List.mem_append_left _ (List.mem_append_left _ (List.mem_append_left _ hp))))]; exact hfo6
  have tp : tg (f6 pm) = 4 := by rw [g_54]; rfl
  have h76 : ∀ z, z ≠ pm → f58 z = f6 z := fun z z1 => by rw [ef58]; exact va_up_ne _ _ z1
  exact pz_vret hx hb hr hlocks hK hP hD hS (Nat.le_of_ble_eq_true rfl) (Nat.le_of_ble_eq_true rfl) ⟨q1, q10, q20, q30, to6, sa6, ⟨(hsub6 _ (List.mem_append_left _ (List.mem_append_left _ (List.mem_append_left _ (List.mem_append_left _ hp))))), h_59, ⟨0, (hsub6 _ (List.mem_append_left _ (List.mem_append_left _ (List.mem_append_left _ (l_in_new _ _))))), h_60, Or.inl ⟨rfl, rfl⟩⟩, ⟨0, (hsub6 _ (List.mem_append_left _ (List.mem_append_left _ (l_in_new _ _)))), h_61, Or.inl ⟨rfl, rfl⟩⟩, (Ne.symm (pz_nef hnq10 (l_in_new _ _))), fun h => absurd rfl h, ⟨rfl, fun i x it h => by cases h⟩, ⟨rfl, fun i x it h => by cases h⟩, (hsub6 _ (List.mem_append_left _ (l_in_new _ _))), h_62, (hsub6 _ (l_in_new _ _)), h_63, List.mem_append_left _ (l_in_new _ _), (h76 _ (tg_ne (show tg (f6 to6) = 3 by rw [hto6]; rfl) tp (by decide))).trans hto6, l_in_new _ _, (h76 _ (tg_ne (show tg (f6 sa6) = 101 by rw [hsa6]; rfl) tp (by decide))).trans hsa6, (hsub6 _ (List.mem_append_left _ (l_in_new _ _))), h_62⟩⟩ d_PM_init_58
end
section
/-! METHODS THAT THROW: what is thrown, by its class; the pool is as it was -/
abbrev xT (G : gG) (L : List Nat) (f : Nat → va_E) (sz : Nat) (E9 : String) : String → State → State → Prop := vx_X (S := Unit) (fun _ => True) (fun E _ t => E = E9 ∧ pz_B (gD G) cls9 (gT G) (mA L f sz) (L, f) t) (mA L f sz)
/-- a method that throws E9 and changes nothing -/
abbrev mX (l : Launch) (y : MethodName) (ws : List Cond) (rm : Room) (G : gG) (L : List Nat) (f : Nat → va_E) (sz : Nat) (av : List Value) (E9 : String) : Prop := vx_Met l y ws rm (mP G L f sz av) (fun _ _ _ _ => False) (xT G L f sz E9) 1 6 (mA L f sz)
def xN : List String := ["java/lang/RuntimeException", "java/lang/Exception"]
theorem nb_use {args : Array Value} {s : State} (h : ∀ w ∈ NB, va_Nw w s) : ∀ w ∈ NB, w.before args s = true := fun w hw => by
  have h2 := (List.mem_filter.mp hw).2
  refine va_Nw.use ?_ (h w hw)
  cases w <;> first | rfl | exact absurd (show false = true from h2) (by decide)
theorem at_IAE1 : ∀ w ∈ (vx_atS "PageMaker" 51 "java/lang/IllegalArgumentException" xN).filter goodWord, w ∈ lw_tbl := by decide +kernel
theorem at_IAE2 : ∀ w ∈ (vx_atS "PageMaker" 51 "java/lang/IllegalArgumentException" xN).filter (fun w => !goodWord w), w ∈ NB := by decide +kernel
theorem at_IAE3 : ∀ w ∈ Cond.classLink "PageMaker" 47 "java/lang/IllegalArgumentException" :: Cond.initialized "java/lang/IllegalArgumentException" :: vx_atS "PageMaker" 51 "java/lang/IllegalArgumentException" xN, vx_ot w = true := by decide +kernel
theorem at_IOB1 : ∀ w ∈ (vx_atS "PageMaker" 131 "java/lang/IndexOutOfBoundsException" xN).filter goodWord, w ∈ lw_tbl := by decide +kernel
theorem at_IOB2 : ∀ w ∈ (vx_atS "PageMaker" 131 "java/lang/IndexOutOfBoundsException" xN).filter (fun w => !goodWord w), w ∈ NB := by decide +kernel
theorem at_IOB3 : ∀ w ∈ Cond.classLink "PageMaker" 127 "java/lang/IndexOutOfBoundsException" :: Cond.initialized "java/lang/IndexOutOfBoundsException" :: vx_atS "PageMaker" 131 "java/lang/IndexOutOfBoundsException" xN, vx_ot w = true := by decide +kernel
section PZX
variable {p : Program} {l : Launch} {e : Env} {R : Room} {s : State} {m : MethodId} {args : Array Value} {below : List Frame} {meth : Method} {c : Code} {H : Heap} {locs : List Loc} {cells slots : Nat} {Q : State → Prop}
variable {cc : ByteArray} {pc : Nat} {ls : Array Slot} {rest st0 : List Value} {A : Nat → Prop} {X : va_W} {L : List Nat} {f : Nat → va_E} {H0 : Heap} {sz mc ms : Nat} {av : List Value} {G : gG} {E9 : String}
theorem pz_metX {y : MethodName} {ws ws' : List Cond} {rm : Room} {Qc : Array Value → State → Outcome → State → Prop} {XC : String → State → State → Prop} {free : Addr → Prop} {maxL : Nat} {ret : Option FieldType} (hy : plainName y.cls = true) (hw : ws = Cond.code y cc maxL ret :: ws') (hlen : (lg_sl av).length ≤ maxL)
    (body : ∀ (p : Program) (e : Env) (s : State) (m : MethodId) (below : List Frame) (meth : Method) (c : Code) (ls : Array Slot), p.tables.exec = Jvm.exec → c.code = cc → meth.sig.returnType = ret → c.maxLocals = maxL → (∀ w ∈ ws, w.before av.toArray s = true) → s.vm.findClass y.cls = some m.cls → meth.locks = false → (∀ x ∈ c.exceptionTable.toList, False) → s.heap.size = sz → va_K (gD G) cls9 (gT G) s → va_P (gD G) cls9 ([] ++ va_pl L f) s.heap → va_D (mA L f sz) ([] ++ va_pl L f) → va_S (mA L f sz) s.heap s.heap [] → (∀ q, s.heap.size ≤ q → mA L f sz q) → gZ G (mA L f sz) s s.heap → lv_has ls maxL (lv_args 0 av) →
      W p l e rm s m av.toArray below meth c s.heap [] 0 0 (vx_MQ below Qc XC av.toArray s mc ms free) (F0 m 0 ls [])) : vx_Met l y ws rm (mP G L f sz av) Qc XC mc ms free := by
  refine vx_ofW (cc := cc) (maxL := maxL) (ret := ret) hy hw ?_
  intro p e s m args below meth c s₁ B hml ht hv
  obtain ⟨rfl, hsz, hP, hK, hD0, hz⟩ := hv
  rw [lg_entry_eq]
  exact body p e s m below meth c _ B.exec B.bytes B.returns hml (atoms_spec (ws := ws) B.pre) (findClass_of_methodNamed B.named) B.notSynchronized ht hsz hK hP hD0.self va_S.rf (fun q h => Or.inr (by rw [← hsz]; exact h)) hz (lv_entry av hlen)
theorem pz_xE (hK : va_K (gD G) cls9 (gT G) s) (hP : va_P (gD G) cls9 ([] ++ va_pl L f) H) (hD : va_D (mA L f sz) ([] ++ va_pl L f)) (hS : va_S (mA L f sz) s.heap H locs) (t : State) (ht : t.heap = H) (hvm : s.vm.Alike t.vm) : xT G L f sz E9 E9 s t := ⟨(), trivial, ⟨rfl, by rw [ht]; exact hP, va_K.moved hvm hK, hD⟩, hS.F ht⟩
/-- what a callee threw goes on -/
theorem pz_out {Qc : Array Value → State → Outcome → State → Prop} {ce : Cell} {q : Addr} (hnt : ∀ x ∈ c.exceptionTable.toList, False) (hlocks : meth.locks = false) (hK : va_K (gD G) cls9 (gT G) s) (hP : va_P (gD G) cls9 ([] ++ va_pl L f) H) (hD : va_D (mA L f sz) ([] ++ va_pl L f)) (hS : va_S (mA L f sz) s.heap H locs) (hcell : H[q]? = some ce) (hv : ce.vm = .none) (hcl : s.vm.findClass E9 = some ce.cls) (hc : cells ≤ mc) (hs : slots ≤ ms) :
    vx_W p l e R s m args below meth c H locs cells slots (vx_MQ below Qc (xT G L f sz E9) args s mc ms (mA L f sz)) (F0 m pc ls rest) q :=
  vx_out (fun x hx => (hnt x hx).elim) hlocks hcell hv hcl (fun t h1 h2 => pz_xE hK hP hD hS t h1 h2) hS.2.2 hc hs
/-- a call that throws -/
theorem pz_cx {aa : Array Value} (hr : vx_Run p l e R s m args below meth c H locs cells slots mc ms (F0 m pc ls st0) rest ((fun _ _ _ _ => False : Array Value → State → Outcome → State → Prop) aa) (xT G L f H.size E9) (mA L f H.size)) (hP : va_P (gD G) cls9 (X ++ va_pl L f) H) (hD : va_D A (X ++ va_pl L f)) (hS : va_S A H0 H locs) (hA : ∀ q, H0.size ≤ q → A q)
    (kx : ∀ (ce : Cell) (q9 : Addr) (H1 : Heap) (locs1 : List Loc), va_P (gD G) cls9 (X ++ va_pl L f) H1 → va_D A (X ++ va_pl L f) → va_S A H0 H1 locs1 → H1[q9]? = some ce → ce.vm = .none → s.vm.findClass E9 = some ce.cls → vx_W p l e R s m args below meth c H1 locs1 (cells + mc) (slots + ms) Q (F0 m pc ls rest) q9) : W p l e R s m args below meth c H locs cells slots Q (F0 m pc ls st0) := by
  have hF := pz_sub hD hS hA
  intro T hT X9
  rcases hr T hT X9 with ⟨v, st₀, t, T', L9, h0, X', hL, e1, e2, h, -⟩ | ⟨q, st₀, t, T', L9, E, ce, h0, X', hL, e1, e2, ⟨u, -, ⟨rfl, hB⟩, hF9⟩, hce, hcv, hcl, st⟩
  · exact h.elim
  · obtain ⟨k1, k2, k3⟩ := vx_keep h0 e1 hS (fun q _ h => hF q h) hF hL hF9
    obtain ⟨h1, h2⟩ := pz_join (u := (L, f)) hP hD hF e1.symm hB k2
    obtain ⟨t2, a1, b1⟩ := kx ce q T'.heap (locs ++ L9) h1 h2 k3 (by rw [e1]; exact hce) hcv hcl T' rfl X'
    exact ⟨t2, st.trans a1, b1⟩
theorem pz_P_grow {D : va_G} {cl : List vw_C} {ws : va_W} {H1 : Heap} (hP : va_P D cl ws H) (hk : ∀ q : Nat, q < H.size → H1[q]? = H[q]?) : va_P D cl ws H1 := hP.kept (fun k q h => hk q.1 (hP k q h).lt)
theorem pz_thr (is : Nat) (text : String) (ik ic : Nat) (hexec : p.tables.exec = Jvm.exec) (hb : c.code = cc) (hl9 : l.stackTraces = false) (hown : s.vm.findClass "PageMaker" = some m.cls) (hcls : Bundle.fit E9 = true) (htb : ∀ w ∈ TB, w.before args s = true) (hz : gZ G (mA L f sz) s s.heap) (hnt : ∀ x ∈ c.exceptionTable.toList, False) (hlocks : meth.locks = false) (hK : va_K (gD G) cls9 (gT G) s) (hP : va_P (gD G) cls9 ([] ++ va_pl L f) H) (hD : va_D (mA L f sz) ([] ++ va_pl L f)) (hS : va_S (mA L f sz) s.heap H locs)
    (hk : Cond.classLink "PageMaker" ik E9 ∈ TB) (hini : Cond.initialized E9 ∈ TB) (h1 : ∀ w ∈ (vx_atS "PageMaker" ic E9 xN).filter goodWord, w ∈ lw_tbl) (h2 : ∀ w ∈ (vx_atS "PageMaker" ic E9 xN).filter (fun w => !goodWord w), w ∈ NB) (h3 : ∀ w ∈ Cond.classLink "PageMaker" ik E9 :: Cond.initialized E9 :: vx_atS "PageMaker" ic E9 xN, vx_ot w = true) (hst : (is, text) ∈ NS)
    {Qc : Array Value → State → Outcome → State → Prop} {nL : Nat} (hml : c.maxLocals = nL) (hls : ls.size = nL) (d0 : decode cc pc = .ok (.new ik, 3)) (d3 : decode cc (pc + 3) = .ok (.dup, 1)) (d4 : decode cc (pc + 4) = .ok (.ldc is, 2)) (d6 : decode cc (pc + 6) = .ok (.invokespecial ic, 3)) (d9 : decode cc (pc + 9) = .ok (.athrow, 1))
    (hRf : 6 ≤ R.frames) (hRl : 82 ≤ R.locals) (hRc : cells + 1 ≤ R.cells) (hRs : slots + 6 ≤ R.slots) (hc : cells + 1 ≤ mc) (hs : slots + 6 ≤ ms) :
    W p l e R s m args below meth c H locs cells slots (vx_MQ below Qc (xT G L f sz E9) args s mc ms (mA L f sz)) (F0 m pc ls []) := by
  have hat : ∀ w ∈ vx_atS "PageMaker" ic E9 xN, w.before args s = true := vx_hat (fun w hw => htb w (List.mem_filter.mpr ⟨h1 w hw, (List.mem_filter.mp hw).2⟩)) h2 (nb_use hz.1)
  refine vx_throwS (own := "PageMaker") (cls := E9) (names := xN) hexec hb hl9 hown hcls (by decide +kernel) (htb _ hk) (htb _ hini) (hz.2.2.2.2.1 (is, text) hst) hat h3 hz.2.2.2.2.2.2.2.1 hz.2.2.2.2.2.2.2.2 hS (hls.trans hml.symm) d0 d3 d4 d6 d9 (fun x hx => (hnt x hx).elim) hRf (by show 0 + 82 ≤ R.locals; omega) hRc hRs hlocks ?_ hS.2.2 hc hs
  intro t hvm hz1 hk1
  refine ⟨(), trivial, ⟨rfl, ?_, va_K.moved hvm hK, hD⟩, Nat.le_trans hS.1 hz1, fun q q1 q2 => (hk1 q (Nat.lt_of_lt_of_le q1 hS.1)).trans (hS.2.1 q q1 q2)⟩
  exact pz_P_grow (ws := va_pl L f) hP hk1
end PZX
end
section
/-! PageMaker: frame, box, glue, kern, penalty: each where its numbers are right, and where it throws -/
theorem vp_in4 {o : Int32} (h1 : 0 ≤ o) (h2 : o < 4) : vp_in o 4 := by
  rw [Int32.le_iff_toInt_le, Int32.toInt_zero] at h1
  rw [Int32.lt_iff_toInt_lt, show (4 : Int32).toInt = 4 by decide] at h2
  exact vp_in_iff.mpr ⟨h1, h2⟩
/-- a new cell beside -/
theorem rx_grow {G : gG} {L : List Nat} {f f1 : Nat → va_E} {pm al ad el ed fr op to sa fo q : Nat} {xs ys : List Nat} {S : CS} (h : RX G L f pm al ad el ed fr op to sa fo xs ys S) (hq : q ∉ L) (hk : ∀ z, z ≠ q → f1 z = f z) : RX G (L ++ [q]) f1 pm al ad el ed fr op to sa fo xs ys S := by
  obtain ⟨a1, a2, a3, a4, a5, a6, a7, a8, a9, b1, b2, b3, b4, b5, b6, b7, b8, b9⟩ := h
  have hsub : ∀ z, z ∈ L → z ∈ L ++ [q] := fun z hz => List.mem_append_left _ hz
  have kp : ∀ z, z ∈ L → f1 z = f z := fun z hz => hk z (Ne.symm (pz_nef hq hz))
  exact ⟨hsub _ a1, (kp _ a1).trans a2, lr_keep2 a3 hsub (kp _ (lr_tg a3).1) (fun _ h _ => kp _ h), lr_keep2 a4 hsub (kp _ (lr_tg a4).1) (fun _ h _ => kp _ h), a5, a6, xr_keep a7 hsub (fun z hz _ _ => kp z hz), yr_keep a8 hsub (fun z hz _ => kp z hz), hsub _ a9, (kp _ a9).trans b1, hsub _ b2, (kp _ b2).trans b3, hsub _ b4, (kp _ b4).trans b5, hsub _ b6, (kp _ b6).trans b7, hsub _ b8, (kp _ b8).trans b9⟩
/-- a new frame -/
theorem rx_frame {G : gG} {L : List Nat} {f f1 : Nat → va_E} {pm al ad el ed fr op to sa fo q : Nat} {xs ys : List Nat} {S : CS} {F1 : Fr} (h : RX G L f pm al ad el ed fr op to sa fo xs ys S) (hq : q ∉ L) (h1 : f1 pm = .inr (4, [.ref al, .ref el, .ref q, .ref op])) (h2 : f1 q = frE F1) (hk : ∀ z, z ≠ pm → z ≠ q → f1 z = f z) : RX G (L ++ [q]) f1 pm al ad el ed q op to sa fo xs ys (S.1, F1, S.2.2.1, S.2.2.2.1, S.2.2.2.2.1, S.2.2.2.2.2) := by
  obtain ⟨a1, a2, a3, a4, a5, a6, a7, a8, a9, b1, b2, b3, b4, b5, b6, b7, b8, b9⟩ := h
  have hsub : ∀ z, z ∈ L → z ∈ L ++ [q] := fun z hz => List.mem_append_left _ hz
  have tp : tg (f pm) = 4 := by rw [a2]; rfl
  have kp : ∀ z, z ∈ L → tg (f z) ≠ 4 → f1 z = f z := fun z hz ht => hk z (tg_ne rfl tp ht) (Ne.symm (pz_nef hq hz))
  have kp2 : ∀ z j, z ∈ L → tg (f z) = j → j ≠ 4 → f1 z = f z := fun z j hz e q1 => kp z hz (by rw [e]; exact q1)
  exact ⟨hsub _ a1, h1, lr_keep2 a3 hsub (kp2 _ 0 (lr_tg a3).1 (lr_tg a3).2 (by decide)) (fun _ h t => kp2 _ 104 h t (by decide)), lr_keep2 a4 hsub (kp2 _ 0 (lr_tg a4).1 (lr_tg a4).2 (by decide)) (fun _ h t => kp2 _ 104 h t (by decide)), a5, a6, xr_keep a7 hsub (fun z hz _ _ => kp z hz (by omega)), yr_keep a8 hsub (fun z hz q => kp z hz (by omega)), l_in_new _ _, h2, hsub _ b2, (kp2 op 2 b2 (by rw [b3]; rfl) (by decide)).trans b3, hsub _ b4, (kp2 to 3 b4 (by rw [b5]; rfl) (by decide)).trans b5, hsub _ b6, (kp2 sa 101 b6 (by rw [b7]; rfl) (by decide)).trans b7, hsub _ b8, (kp2 fo 1 b8 (by rw [b9]; rfl) (by decide)).trans b9⟩
set_option maxHeartbeats 4000000 in
set_option maxRecDepth 100000 in
/-- frame, the sizes right -/
theorem c_PM_frame (l : Launch) (G : gG) (L : List Nat) (f : Nat → va_E) (sz : Nat) (pm al ad el ed fr op to sa fo : Nat) (xs ys : List Nat) (its : List It) (F9 : Fr) (pgs : List (Fr × Pg)) (F : Fr) (P : Op) (T : Tt) (h t g : Int32) (hR : RX G L f pm al ad el ed fr op to sa fo xs ys (its, F9, pgs, F, P, T)) (h1 : k_isZ h) (h2 : k_isS t) (h3 : k_isZ g) : mV l y_PM_frame w_PM_frame ({ frames := 2, cells := 1, slots := 3, locals := 43 }) G L f sz [.ref pm, .int h, .int t, .int g] 1 3 (fun u => ∃ fr1, RX G u.1 u.2 pm al ad el ed fr1 op to sa fo xs ys (its, (h, t, g), pgs, F, P, T)) := by
  refine pz_met (cc := prog_1_method_2_code) (maxL := 4) (ret := none) (by decide) rfl (Nat.le_of_ble_eq_true rfl) ?_
  intro p e s m below meth c ls hx hb hr hml hts hown hlocks hin hsz hK hP hD hS hA hz hl
  have htb : ∀ w ∈ TB, w.before _ s = true := fun w h => hts w (List.mem_cons_of_mem _ h)
  have hl : lv_has ls 4 [(0, .ref pm), (1, .int h), (2, .int t), (3, .int g)] := hl
  obtain ⟨hp, hfp, h_al, h_el, hne9, hdd, hX, hY, hr9, hfr, ho, hfo, ht, hft, hs9, hsa, hr8, hfof⟩ := id hR
  have hX : XR L f xs its := hX
  have hY : YR L f ys pgs := hY
  have hfr : f fr = frE F9 := hfr
  have hfo : f op = opE to fo P := hfo
  have hft : f to = toE sa T := hft
  have hsa : f sa = saE G T := hsa
  have hfof : f fo = frE F := hfof
  obtain ⟨mo_al, hm_al, hc_al, -⟩ := id h_al
  refine lv_iload_n hx hb d_PM_frame_0 rfl (lv_at hl 1 rfl) ?_
  refine vp_callSi (va_Run.run (va_runS (As := [.int h]) (rest := []) ⟨hx, hb, hml, hown, hts⟩ (c_PM_isSizeFromZero l h) (cwS 1 hts (tb_S tw_193 tw_194 tw_1 tw_195) rfl rfl rfl (by decide +kernel) ⟨(Nat.le_of_ble_eq_true rfl), (Nat.le_of_ble_eq_true rfl)⟩) pz_preP rfl rfl hl.1 rfl (lv_room (Nat.le_of_ble_eq_true rfl)) d_PM_frame_1 ⟨(Nat.le_of_ble_eq_true rfl), (Nat.le_of_ble_eq_true rfl)⟩)) (fun r1 hw => ?_)
  have hw : r1 = 1 := k_by (show k_b (k_isZ h) r1 from hw) h1
  subst hw
  refine lv_if_eq (tgt := 21) hx hb d_PM_frame_4 (by decide) (fun c0 => absurd c0 (by decide)) (fun _ => ?_)
  refine lv_iload_n hx hb d_PM_frame_7 rfl (lv_at hl 2 rfl) ?_
  refine vp_callSi (va_Run.run (va_runS (As := [.int t]) (rest := []) ⟨hx, hb, hml, hown, hts⟩ (c_PM_isSize l t) (cwS 1 hts (tb_S tw_197 tw_198 tw_1 tw_199) rfl rfl rfl (by decide +kernel) ⟨(Nat.le_of_ble_eq_true rfl), (Nat.le_of_ble_eq_true rfl)⟩) pz_preP rfl rfl hl.1 rfl (lv_room (Nat.le_of_ble_eq_true rfl)) d_PM_frame_8 ⟨(Nat.le_of_ble_eq_true rfl), (Nat.le_of_ble_eq_true rfl)⟩)) (fun r2 hw => ?_)
  have hw : r2 = 1 := k_by (show k_b (k_isS t) r2 from hw) h2
  subst hw
  refine lv_if_eq (tgt := 21) hx hb d_PM_frame_11 (by decide) (fun c0 => absurd c0 (by decide)) (fun _ => ?_)
  refine lv_iload_n hx hb d_PM_frame_14 rfl (lv_at hl 3 rfl) ?_
  refine vp_callSi (va_Run.run (va_runS (As := [.int g]) (rest := []) ⟨hx, hb, hml, hown, hts⟩ (c_PM_isSizeFromZero l g) (cwS 1 hts (tb_S tw_193 tw_194 tw_1 tw_195) rfl rfl rfl (by decide +kernel) ⟨(Nat.le_of_ble_eq_true rfl), (Nat.le_of_ble_eq_true rfl)⟩) pz_preP rfl rfl hl.1 rfl (lv_room (Nat.le_of_ble_eq_true rfl)) d_PM_frame_15 ⟨(Nat.le_of_ble_eq_true rfl), (Nat.le_of_ble_eq_true rfl)⟩)) (fun r3 hw => ?_)
  have hw : r3 = 1 := k_by (show k_b (k_isZ g) r3 from hw) h3
  subst hw
  refine lv_if_ne (tgt := 31) hx hb d_PM_frame_18 (by decide) (fun _ => ?_) (fun c0 => absurd c0 (by decide))
  refine lv_aload_n hx hb d_PM_frame_31 rfl (lv_at hl 0 rfl) ?_
  refine pz_new (ci := 1) (fs := [.int 0, .int 0, .int 0]) (C := "PageMaker$Frame") (T := T_FR) (N := 3) hx hb htb in_FR ty_FR to_FR hown (htb _ tw_61) (htb _ tw_62) (htb _ tw_5) hK hP hD hS hA rfl (fun j hj => by rcases (show j = 0 ∨ j = 1 ∨ j = 2 by omega) with rfl | rfl | rfl <;> rfl) (Nat.le_of_ble_eq_true rfl) (Nat.le_of_ble_eq_true rfl) d_PM_frame_32 (fun q4 L5 f6 H hnq4 eL5 ef6 hP hD hS => ?_)
  subst L5
  refine lv_dup hx hb d_PM_frame_35 rfl ?_
  refine lv_iload_n hx hb d_PM_frame_36 rfl (lv_at hl 1 rfl) ?_
  refine lv_iload_n hx hb d_PM_frame_37 rfl (lv_at hl 2 rfl) ?_
  refine lv_iload_n hx hb d_PM_frame_38 rfl (lv_at hl 3 rfl) ?_
  have h_7 : f6 q4 = .inr (1, [.int 0, .int 0, .int 0]) := by rw [ef6]; exact va_up_self _ _ _
  refine pz_cv (va_runI (As := [.int h, .int t, .int g]) (rest := [.ref q4, .ref pm]) ⟨hx, hb, hml, hown, hts⟩ (c_FR_init l G (L ++ [q4]) f6 _ q4 h t g 0 0 0 (l_in_new _ _) h_7) (cwI 3 hts (tb_good tw_68) rfl rfl rfl (htb _ tw_5) (htb _ tw_66) (htb _ tw_67) rfl (by decide +kernel) ⟨(Nat.le_of_ble_eq_true rfl), (Nat.le_of_ble_eq_true rfl)⟩) (pz_pre (zz_ok _ _ _) hK hP hD hS hA hz) rfl rfl hl.1 rfl (lv_room (Nat.le_of_ble_eq_true rfl)) d_PM_frame_39 ⟨(Nat.le_of_ble_eq_true rfl), (Nat.le_of_ble_eq_true rfl)⟩) hP hD hS hA (fun L9 f8 H locs hw hP hD hS => ?_)
  have ef8 : f8 = va_up (f6) q4 (.inr (1, [.int h, .int t, .int g])) := (Prod.mk.inj hw).2
  have eL9 : L9 = (L ++ [q4]) := (Prod.mk.inj hw).1
  subst L9
  have h_11 : f6 pm = .inr (4, [.ref al, .ref el, .ref fr, .ref op]) := by rw [ef6, va_up_ne _ _ (Ne.symm (pz_nef hnq4 hp))]; exact hfp
  have h_10 : f8 pm = .inr (4, [.ref al, .ref el, .ref fr, .ref op]) := by rw [ef8, va_up_ne _ _ (Ne.symm (pz_nef hnq4 hp))]; exact h_11
  refine pz_put (ci := 4) (v := .ref q4) (ty := .object "PageMaker$Frame") (C := "PageMaker") (T := T_PM) (N := 4) hx hb htb in_PM ty_PM to_PM nm_PM hown hK hP hD hS (List.mem_append_left _ hp) h_10 rfl 2 (by decide) (htb _ tw_162) (fun _ h9 => h9) rfl rfl rfl rfl (Nat.le_of_ble_eq_true rfl) d_PM_frame_42 (fun f12 H locs ef12 hP hD hS => ?_)
  have ef12 : f12 = va_up f8 pm (.inr (4, [.ref al, .ref el, .ref q4, .ref op])) := ef12
  have k1 : f12 pm = .inr (4, [.ref al, .ref el, .ref q4, .ref op]) := by rw [ef12]; exact va_up_self _ _ _
  have k2 : f12 q4 = frE (h, t, g) := by rw [ef12, va_up_ne _ _ (pz_nef hnq4 hp), ef8]; exact va_up_self _ _ _
  have k3 : ∀ z, z ≠ pm → z ≠ q4 → f12 z = f z := fun z z1 z2 => by rw [ef12, va_up_ne _ _ z1, ef8, va_up_ne _ _ z2, ef6, va_up_ne _ _ z2]
  exact pz_vret hx hb hr hlocks hK hP hD hS (Nat.le_of_ble_eq_true rfl) (Nat.le_of_ble_eq_true rfl) ⟨q4, rx_frame hR hnq4 k1 k2 k3⟩ d_PM_frame_45
set_option maxHeartbeats 4000000 in
set_option maxRecDepth 100000 in
/-- frame throws -/
theorem x_PM_frame (l : Launch) (hl9 : l.stackTraces = false) (G : gG) (L : List Nat) (f : Nat → va_E) (sz : Nat) (pm : Nat) (h t g : Int32) (hno : ¬ (k_isZ h ∧ k_isS t ∧ k_isZ g)) : mX l y_PM_frame w_PM_frame ({ frames := 6, cells := 1, slots := 6, locals := 82 }) G L f sz [.ref pm, .int h, .int t, .int g] "java/lang/IllegalArgumentException" := by
  refine pz_metX (cc := prog_1_method_2_code) (maxL := 4) (ret := none) (by decide) rfl (Nat.le_of_ble_eq_true rfl) ?_
  intro p e s m below meth c ls hx hb hr hml hts hown hlocks hnt hsz hK hP hD hS hA hz hl
  have htb : ∀ w ∈ TB, w.before _ s = true := fun w h => hts w (List.mem_cons_of_mem _ h)
  have hl : lv_has ls 4 [(0, .ref pm), (1, .int h), (2, .int t), (3, .int g)] := hl
  refine lv_iload_n hx hb d_PM_frame_0 rfl (lv_at hl 1 rfl) ?_
  refine vp_callSi (va_Run.run (va_runS (As := [.int h]) (rest := []) ⟨hx, hb, hml, hown, hts⟩ (c_PM_isSizeFromZero l h) (cwS 1 hts (tb_S tw_193 tw_194 tw_1 tw_195) rfl rfl rfl (by decide +kernel) ⟨(Nat.le_of_ble_eq_true rfl), (Nat.le_of_ble_eq_true rfl)⟩) pz_preP rfl rfl hl.1 rfl (lv_room (Nat.le_of_ble_eq_true rfl)) d_PM_frame_1 ⟨(Nat.le_of_ble_eq_true rfl), (Nat.le_of_ble_eq_true rfl)⟩)) (fun r1 hw => ?_)
  rcases (show k_b (k_isZ h) r1 from hw) with ⟨rfl, hq2⟩ | ⟨rfl, hq2⟩
  · refine lv_if_eq (tgt := 21) hx hb d_PM_frame_4 (by decide) (fun c0 => absurd c0 (by decide)) (fun _ => ?_)
    refine lv_iload_n hx hb d_PM_frame_7 rfl (lv_at hl 2 rfl) ?_
    refine vp_callSi (va_Run.run (va_runS (As := [.int t]) (rest := []) ⟨hx, hb, hml, hown, hts⟩ (c_PM_isSize l t) (cwS 1 hts (tb_S tw_197 tw_198 tw_1 tw_199) rfl rfl rfl (by decide +kernel) ⟨(Nat.le_of_ble_eq_true rfl), (Nat.le_of_ble_eq_true rfl)⟩) pz_preP rfl rfl hl.1 rfl (lv_room (Nat.le_of_ble_eq_true rfl)) d_PM_frame_8 ⟨(Nat.le_of_ble_eq_true rfl), (Nat.le_of_ble_eq_true rfl)⟩)) (fun r3 hw => ?_)
    rcases (show k_b (k_isS t) r3 from hw) with ⟨rfl, hq4⟩ | ⟨rfl, hq4⟩
    · refine lv_if_eq (tgt := 21) hx hb d_PM_frame_11 (by decide) (fun c0 => absurd c0 (by decide)) (fun _ => ?_)
      refine lv_iload_n hx hb d_PM_frame_14 rfl (lv_at hl 3 rfl) ?_
      refine vp_callSi (va_Run.run (va_runS (As := [.int g]) (rest := []) ⟨hx, hb, hml, hown, hts⟩ (c_PM_isSizeFromZero l g) (cwS 1 hts (tb_S tw_193 tw_194 tw_1 tw_195) rfl rfl rfl (by decide +kernel) ⟨(Nat.le_of_ble_eq_true rfl), (Nat.le_of_ble_eq_true rfl)⟩) pz_preP rfl rfl hl.1 rfl (lv_room (Nat.le_of_ble_eq_true rfl)) d_PM_frame_15 ⟨(Nat.le_of_ble_eq_true rfl), (Nat.le_of_ble_eq_true rfl)⟩)) (fun r5 hw => ?_)
      rcases (show k_b (k_isZ g) r5 from hw) with ⟨rfl, hq6⟩ | ⟨rfl, hq6⟩
      · exact absurd ⟨hq2, hq4, hq6⟩ hno
      · refine lv_if_ne (tgt := 31) hx hb d_PM_frame_18 (by decide) (fun c0 => absurd c0 (by decide)) (fun _ => ?_)
        exact pz_thr 49 "a frame needs sizes, its height and greatest depth not below 0" 47 51 hx hb hl9 hown (by decide +kernel) htb hz hnt hlocks hK hP hD hS tw_201 tw_12 at_IAE1 at_IAE2 at_IAE3 (by decide +kernel) hml hl.1 d_PM_frame_21 d_PM_frame_24 d_PM_frame_25 d_PM_frame_27 d_PM_frame_30 (Nat.le_of_ble_eq_true rfl) (Nat.le_of_ble_eq_true rfl) (Nat.le_of_ble_eq_true rfl) (Nat.le_of_ble_eq_true rfl) (Nat.le_of_ble_eq_true rfl) (Nat.le_of_ble_eq_true rfl)
    · refine lv_if_eq (tgt := 21) hx hb d_PM_frame_11 (by decide) (fun _ => ?_) (fun c0 => absurd c0 (by decide))
      exact pz_thr 49 "a frame needs sizes, its height and greatest depth not below 0" 47 51 hx hb hl9 hown (by decide +kernel) htb hz hnt hlocks hK hP hD hS tw_201 tw_12 at_IAE1 at_IAE2 at_IAE3 (by decide +kernel) hml hl.1 d_PM_frame_21 d_PM_frame_24 d_PM_frame_25 d_PM_frame_27 d_PM_frame_30 (Nat.le_of_ble_eq_true rfl) (Nat.le_of_ble_eq_true rfl) (Nat.le_of_ble_eq_true rfl) (Nat.le_of_ble_eq_true rfl) (Nat.le_of_ble_eq_true rfl) (Nat.le_of_ble_eq_true rfl)
  · refine lv_if_eq (tgt := 21) hx hb d_PM_frame_4 (by decide) (fun _ => ?_) (fun c0 => absurd c0 (by decide))
    exact pz_thr 49 "a frame needs sizes, its height and greatest depth not below 0" 47 51 hx hb hl9 hown (by decide +kernel) htb hz hnt hlocks hK hP hD hS tw_201 tw_12 at_IAE1 at_IAE2 at_IAE3 (by decide +kernel) hml hl.1 d_PM_frame_21 d_PM_frame_24 d_PM_frame_25 d_PM_frame_27 d_PM_frame_30 (Nat.le_of_ble_eq_true rfl) (Nat.le_of_ble_eq_true rfl) (Nat.le_of_ble_eq_true rfl) (Nat.le_of_ble_eq_true rfl) (Nat.le_of_ble_eq_true rfl) (Nat.le_of_ble_eq_true rfl)
set_option maxHeartbeats 4000000 in
set_option maxRecDepth 100000 in
/-- needRoom: there is room -/
theorem c_PM_needRoom (l : Launch) (G : gG) (L : List Nat) (f : Nat → va_E) (sz : Nat) (pm al ad el ed fr op to sa fo : Nat) (xs ys : List Nat) (its : List It) (F9 : Fr) (pgs : List (Fr × Pg)) (F : Fr) (P : Op) (T : Tt) (hR : RX G L f pm al ad el ed fr op to sa fo xs ys (its, F9, pgs, F, P, T)) (hn5 : its.length < 512) : mV l y_PM_needRoom w_PM_needRoom ({ frames := 1, cells := 0, slots := 0, locals := 20 }) G L f sz [.ref pm] 0 0 (fun u => u = (L, f)) := by
  refine pz_met (cc := prog_1_method_15_code) (maxL := 1) (ret := none) (by decide) rfl (Nat.le_of_ble_eq_true rfl) ?_
  intro p e s m below meth c ls hx hb hr hml hts hown hlocks hin hsz hK hP hD hS hA hz hl
  have htb : ∀ w ∈ TB, w.before _ s = true := fun w h => hts w (List.mem_cons_of_mem _ h)
  have hl : lv_has ls 1 [(0, .ref pm)] := hl
  obtain ⟨hp, hfp, h_al, h_el, hne9, hdd, hX, hY, hr9, hfr, ho, hfo, ht, hft, hs9, hsa, hr8, hfof⟩ := id hR
  have hX : XR L f xs its := hX
  have hY : YR L f ys pgs := hY
  have hfr : f fr = frE F9 := hfr
  have hfo : f op = opE to fo P := hfo
  have hft : f to = toE sa T := hft
  have hsa : f sa = saE G T := hsa
  have hfof : f fo = frE F := hfof
  obtain ⟨mo_al, hm_al, hc_al, -⟩ := id h_al
  have hxl : xs.length = its.length := hX.1
  refine lv_aload_n hx hb d_PM_needRoom_0 rfl (lv_at hl 0 rfl) ?_
  refine pz_get (ci := 4) (C := "PageMaker") (T := T_PM) (N := 4) hx hb htb in_PM hown hK hP hp hfp rfl 0 (by decide) (htb _ tw_160) (fun _ h9 => h9) rfl d_PM_needRoom_1 ?_
  refine vp_callSi (va_Run.run (va_runV (As := []) (rest := []) ⟨hx, hb, hml, hown, hts⟩ (al_size l G L f _ al ad xs h_al) (cwV 0 hts (tb_V tw_177 tw_178 tw_179 tw_4 tw_180) rfl rfl rfl (by decide +kernel) ⟨(Nat.le_of_ble_eq_true rfl), (Nat.le_of_ble_eq_true rfl)⟩) (pz_preV (zz_ok _ _ _) hK hP hD hS hA hz (ci := 0) rfl rfl hm_al hc_al) rfl rfl hl.1 rfl (lv_room (Nat.le_of_ble_eq_true rfl)) d_PM_needRoom_4 ⟨(Nat.le_of_ble_eq_true rfl), (Nat.le_of_ble_eq_true rfl)⟩)) (fun r1 hw => ?_)
  have hw : r1 = nI xs.length := hw
  subst r1
  refine lv_sipush (v := 2000) hx hb d_PM_needRoom_7 (by decide) ?_
  refine lv_icmp_lt (tgt := 23) hx hb d_PM_needRoom_10 (by decide) (fun _ => ?_) (fun c0 => absurd (show nI xs.length < 2000 from nI_lt (b := 2000) (by omega) (by decide)) c0)
  exact pz_vret hx hb hr hlocks hK hP hD hS (Nat.le_of_ble_eq_true rfl) (Nat.le_of_ble_eq_true rfl) rfl d_PM_needRoom_23
set_option maxHeartbeats 4000000 in
set_option maxRecDepth 100000 in
/-- box, the numbers right -/
theorem c_PM_box (l : Launch) (G : gG) (L : List Nat) (f : Nat → va_E) (sz : Nat) (pm al ad el ed fr op to sa fo : Nat) (xs ys : List Nat) (its : List It) (F9 : Fr) (pgs : List (Fr × Pg)) (F : Fr) (P : Op) (T : Tt) (tag h d : Int32) (hR : RX G L f pm al ad el ed fr op to sa fo xs ys (its, F9, pgs, F, P, T)) (hv0 : 0 ≤ tag) (hv1 : k_isS h) (hv2 : k_isS d) (hn5 : its.length < 512) (hpg : pgs.length ≤ 512) (hok9 : c_ok 4004001 (its ++ [.inl (h, d)], F9, pgs, F, P, T) its.length) : mI l y_PM_box w_PM_box ({ frames := 10, cells := 1 + (1 + 7 * ((c_run 4004001 (its ++ [.inl (h, d)], F9, pgs, F, P, T) its.length).1.2.2.1.length - pgs.length)), slots := 2 + (900 + 933 * ((c_run 4004001 (its ++ [.inl (h, d)], F9, pgs, F, P, T) its.length).1.2.2.1.length - pgs.length)), locals := 237 }) G L f sz [.ref pm, .int tag, .int h, .int d] (1 + (1 + 7 * ((c_run 4004001 (its ++ [.inl (h, d)], F9, pgs, F, P, T) its.length).1.2.2.1.length - pgs.length))) (2 + (900 + 933 * ((c_run 4004001 (its ++ [.inl (h, d)], F9, pgs, F, P, T) its.length).1.2.2.1.length - pgs.length))) (fun r u => r = nI (c_run 4004001 (its ++ [.inl (h, d)], F9, pgs, F, P, T) its.length).1.2.2.1.length ∧ ∃ ad1 ed1 op1 to1 sa1 fo1 xs1 ys1, RX G u.1 u.2 pm al ad1 el ed1 fr op1 to1 sa1 fo1 xs1 ys1 (c_run 4004001 (its ++ [.inl (h, d)], F9, pgs, F, P, T) its.length).1) := by
  refine pz_met (cc := prog_1_method_3_code) (maxL := 4) (ret := (some .int)) (by decide) rfl (Nat.le_of_ble_eq_true rfl) ?_
  intro p e s m below meth c ls hx hb hr hml hts hown hlocks hin hsz hK hP hD hS hA hz hl
  have htb : ∀ w ∈ TB, w.before _ s = true := fun w h => hts w (List.mem_cons_of_mem _ h)
  have hl : lv_has ls 4 [(0, .ref pm), (1, .int tag), (2, .int h), (3, .int d)] := hl
  obtain ⟨hp, hfp, h_al, h_el, hne9, hdd, hX, hY, hr9, hfr, ho, hfo, ht, hft, hs9, hsa, hr8, hfof⟩ := id hR
  have hX : XR L f xs its := hX
  have hY : YR L f ys pgs := hY
  have hfr : f fr = frE F9 := hfr
  have hfo : f op = opE to fo P := hfo
  have hft : f to = toE sa T := hft
  have hsa : f sa = saE G T := hsa
  have hfof : f fo = frE F := hfof
  obtain ⟨mo_al, hm_al, hc_al, -⟩ := id h_al
  refine lv_iload_n hx hb d_PM_box_0 rfl (lv_at hl 1 rfl) ?_
  refine lv_if_lt (tgt := 18) hx hb d_PM_box_1 (by decide) (fun c0 => absurd c0 (i32_nlt hv0)) (fun _ => ?_)
  refine lv_iload_n hx hb d_PM_box_4 rfl (lv_at hl 2 rfl) ?_
  refine vp_callSi (va_Run.run (va_runS (As := [.int h]) (rest := []) ⟨hx, hb, hml, hown, hts⟩ (c_PM_isSize l h) (cwS 1 hts (tb_S tw_197 tw_198 tw_1 tw_199) rfl rfl rfl (by decide +kernel) ⟨(Nat.le_of_ble_eq_true rfl), (Nat.le_of_ble_eq_true rfl)⟩) pz_preP rfl rfl hl.1 rfl (lv_room (Nat.le_of_ble_eq_true rfl)) d_PM_box_5 ⟨(Nat.zero_le _), (Nat.zero_le _)⟩)) (fun r1 hw => ?_)
  have hw : r1 = 1 := k_by (show k_b (k_isS h) r1 from hw) hv1
  subst hw
  refine lv_if_eq (tgt := 18) hx hb d_PM_box_8 (by decide) (fun c0 => absurd c0 (by decide)) (fun _ => ?_)
  refine lv_iload_n hx hb d_PM_box_11 rfl (lv_at hl 3 rfl) ?_
  refine vp_callSi (va_Run.run (va_runS (As := [.int d]) (rest := []) ⟨hx, hb, hml, hown, hts⟩ (c_PM_isSize l d) (cwS 1 hts (tb_S tw_197 tw_198 tw_1 tw_199) rfl rfl rfl (by decide +kernel) ⟨(Nat.le_of_ble_eq_true rfl), (Nat.le_of_ble_eq_true rfl)⟩) pz_preP rfl rfl hl.1 rfl (lv_room (Nat.le_of_ble_eq_true rfl)) d_PM_box_12 ⟨(Nat.zero_le _), (Nat.zero_le _)⟩)) (fun r2 hw => ?_)
  have hw : r2 = 1 := k_by (show k_b (k_isS d) r2 from hw) hv2
  subst hw
  refine lv_if_ne (tgt := 28) hx hb d_PM_box_15 (by decide) (fun _ => ?_) (fun c0 => absurd c0 (by decide))
  refine lv_aload_n hx hb d_PM_box_28 rfl (lv_at hl 0 rfl) ?_
  refine pz_cv (va_runV (As := []) (rest := []) ⟨hx, hb, hml, hown, hts⟩ (c_PM_needRoom l G L f _ pm al ad el ed fr op to sa fo xs ys its F9 pgs F P T hR hn5) (cwV 0 hts (tb_V tw_278 tw_280 tp_1 tw_1 tw_281) rfl rfl rfl (by decide +kernel) ⟨(Nat.le_of_ble_eq_true rfl), (Nat.le_of_ble_eq_true rfl)⟩) (pz_preV (zz_ok _ _ _) hK hP hD hS hA hz (ci := 4) rfl rfl hp hfp) rfl rfl hl.1 rfl (lv_room (Nat.le_of_ble_eq_true rfl)) d_PM_box_29 ⟨(Nat.zero_le _), (Nat.zero_le _)⟩) hP hD hS hA (fun L8 f8 H locs hw hP hD hS => ?_)
  have eL8 : L8 = L := (Prod.mk.inj hw).1
  have ef8 : f8 = f := (Prod.mk.inj hw).2
  subst L8
  subst f8
  refine lv_aload_n hx hb d_PM_box_32 rfl (lv_at hl 0 rfl) ?_
  refine pz_new (ci := 5) (fs := [.int 0, .int 0]) (C := "PageMaker$Box") (T := T_BX) (N := 2) hx hb htb in_BX ty_BX to_BX hown (htb _ tw_298) (htb _ tw_299) (htb _ tw_15) hK hP hD hS hA rfl (fun j hj => by rcases (show j = 0 ∨ j = 1 by omega) with rfl | rfl <;> rfl) (Nat.le_add_right _ _) (Nat.le_add_right _ _) d_PM_box_33 (fun q3 L4 f5 H hnq3 eL4 ef5 hP hD hS => ?_)
  subst L4
  refine lv_dup hx hb d_PM_box_36 rfl ?_
  refine lv_iload_n hx hb d_PM_box_37 rfl (lv_at hl 2 rfl) ?_
  refine lv_iload_n hx hb d_PM_box_38 rfl (lv_at hl 3 rfl) ?_
  have h_6 : f5 q3 = .inr (5, [.int 0, .int 0]) := by rw [ef5]; exact va_up_self _ _ _
  refine pz_cv (va_runI (As := [.int h, .int d]) (rest := [.ref q3, .ref pm]) ⟨hx, hb, hml, hown, hts⟩ (c_BX_init l G (L ++ [q3]) f5 _ q3 0 0 h d (l_in_new _ _) h_6) (cwI 2 hts (tb_good tw_302) rfl rfl rfl (htb _ tw_15) (htb _ tw_300) (htb _ tw_301) rfl (by decide +kernel) ⟨(Nat.le_of_ble_eq_true rfl), (Nat.le_of_ble_eq_true rfl)⟩) (pz_pre (zz_ok _ _ _) hK hP hD hS hA hz) rfl rfl hl.1 rfl (lv_room (Nat.le_of_ble_eq_true rfl)) d_PM_box_39 ⟨(Nat.le_add_right _ _), (Nat.le_add_right _ _)⟩) hP hD hS hA (fun L8 f7 H locs hw hP hD hS => ?_)
  have ef7 : f7 = va_up (f5) q3 (.inr (5, [.int h, .int d])) := (Prod.mk.inj hw).2
  have eL8 : L8 = (L ++ [q3]) := (Prod.mk.inj hw).1
  subst L8
  have hR2 : RX G (L ++ [q3]) f7 pm al ad el ed fr op to sa fo xs ys (its, F9, pgs, F, P, T) := rx_grow hR hnq3 (fun z z1 => by rw [ef7, va_up_ne _ _ z1, ef5, va_up_ne _ _ z1])
  have hq2 : f7 q3 = itE (.inl (h, d)) := by rw [ef7]; exact va_up_self _ _ _
  have h_10 : f5 pm = .inr (4, [.ref al, .ref el, .ref fr, .ref op]) := by rw [ef5, va_up_ne _ _ (Ne.symm (pz_nef hnq3 hp))]; exact hfp
  have h_9 : f7 pm = .inr (4, [.ref al, .ref el, .ref fr, .ref op]) := by rw [ef7, va_up_ne _ _ (Ne.symm (pz_nef hnq3 hp))]; exact h_10
  refine pz_ci (va_runV (As := [.ref q3]) (rest := []) ⟨hx, hb, hml, hown, hts⟩ (c_PM_comeIn l G (L ++ [q3]) f7 _ pm al ad el ed fr op to sa fo xs ys its F9 pgs F P T q3 (.inl (h, d)) hR2 (l_in_new _ _) hq2 trivial hn5 hpg hok9) (cwV 1 hts (tb_V tw_316 tw_318 tp_2 tw_1 tw_319) rfl rfl rfl (by decide +kernel) ⟨(Nat.le_of_ble_eq_true rfl), (Nat.le_of_ble_eq_true rfl)⟩) (pz_preV (zz_ok _ _ _) hK hP hD hS hA hz (ci := 4) rfl rfl (List.mem_append_left _ hp) h_9) rfl rfl hl.1 rfl (lv_room (Nat.le_of_ble_eq_true rfl)) d_PM_box_42 ⟨(Nat.le_refl _), (Nat.le_refl _)⟩) hP hD hS hA (fun r9 L9 f9 H locs hw hP hD hS => ?_)
  obtain ⟨er9, ad1, ed1, op1, to1, sa1, fo1, ys1, hR9⟩ := hw
  exact pz_iret hx hb hr rfl hlocks hK hP hD hS (Nat.le_refl _) (Nat.le_refl _) ⟨er9, ad1, ed1, op1, to1, sa1, fo1, _, ys1, hR9⟩ d_PM_box_45
set_option maxHeartbeats 4000000 in
set_option maxRecDepth 100000 in
/-- box throws -/
theorem x_PM_box (l : Launch) (hl9 : l.stackTraces = false) (G : gG) (L : List Nat) (f : Nat → va_E) (sz : Nat) (pm : Nat) (tag h d : Int32) (hno : ¬ (0 ≤ tag ∧ k_isS h ∧ k_isS d)) : mX l y_PM_box w_PM_box ({ frames := 6, cells := 1, slots := 6, locals := 82 }) G L f sz [.ref pm, .int tag, .int h, .int d] "java/lang/IllegalArgumentException" := by
  refine pz_metX (cc := prog_1_method_3_code) (maxL := 4) (ret := (some .int)) (by decide) rfl (Nat.le_of_ble_eq_true rfl) ?_
  intro p e s m below meth c ls hx hb hr hml hts hown hlocks hnt hsz hK hP hD hS hA hz hl
  have htb : ∀ w ∈ TB, w.before _ s = true := fun w h => hts w (List.mem_cons_of_mem _ h)
  have hl : lv_has ls 4 [(0, .ref pm), (1, .int tag), (2, .int h), (3, .int d)] := hl
  refine lv_iload_n hx hb d_PM_box_0 rfl (lv_at hl 1 rfl) ?_
  refine lv_if_lt (tgt := 18) hx hb d_PM_box_1 (by decide) (fun c_1 => ?_) (fun c_1 => ?_)
  · exact pz_thr 54 "a box needs a tag not below 0 and two sizes" 47 51 hx hb hl9 hown (by decide +kernel) htb hz hnt hlocks hK hP hD hS tw_201 tw_12 at_IAE1 at_IAE2 at_IAE3 (by decide +kernel) hml hl.1 d_PM_box_18 d_PM_box_21 d_PM_box_22 d_PM_box_24 d_PM_box_27 (Nat.le_of_ble_eq_true rfl) (Nat.le_of_ble_eq_true rfl) (Nat.le_of_ble_eq_true rfl) (Nat.le_of_ble_eq_true rfl) (Nat.le_of_ble_eq_true rfl) (Nat.le_of_ble_eq_true rfl)
  · refine lv_iload_n hx hb d_PM_box_4 rfl (lv_at hl 2 rfl) ?_
    refine vp_callSi (va_Run.run (va_runS (As := [.int h]) (rest := []) ⟨hx, hb, hml, hown, hts⟩ (c_PM_isSize l h) (cwS 1 hts (tb_S tw_197 tw_198 tw_1 tw_199) rfl rfl rfl (by decide +kernel) ⟨(Nat.le_of_ble_eq_true rfl), (Nat.le_of_ble_eq_true rfl)⟩) pz_preP rfl rfl hl.1 rfl (lv_room (Nat.le_of_ble_eq_true rfl)) d_PM_box_5 ⟨(Nat.le_of_ble_eq_true rfl), (Nat.le_of_ble_eq_true rfl)⟩)) (fun r2 hw => ?_)
    rcases (show k_b (k_isS h) r2 from hw) with ⟨rfl, hq3⟩ | ⟨rfl, hq3⟩
    · refine lv_if_eq (tgt := 18) hx hb d_PM_box_8 (by decide) (fun c0 => absurd c0 (by decide)) (fun _ => ?_)
      refine lv_iload_n hx hb d_PM_box_11 rfl (lv_at hl 3 rfl) ?_
      refine vp_callSi (va_Run.run (va_runS (As := [.int d]) (rest := []) ⟨hx, hb, hml, hown, hts⟩ (c_PM_isSize l d) (cwS 1 hts (tb_S tw_197 tw_198 tw_1 tw_199) rfl rfl rfl (by decide +kernel) ⟨(Nat.le_of_ble_eq_true rfl), (Nat.le_of_ble_eq_true rfl)⟩) pz_preP rfl rfl hl.1 rfl (lv_room (Nat.le_of_ble_eq_true rfl)) d_PM_box_12 ⟨(Nat.le_of_ble_eq_true rfl), (Nat.le_of_ble_eq_true rfl)⟩)) (fun r4 hw => ?_)
      rcases (show k_b (k_isS d) r4 from hw) with ⟨rfl, hq5⟩ | ⟨rfl, hq5⟩
      · exact absurd ⟨(i32_le c_1), hq3, hq5⟩ hno
      · refine lv_if_ne (tgt := 28) hx hb d_PM_box_15 (by decide) (fun c0 => absurd c0 (by decide)) (fun _ => ?_)
        exact pz_thr 54 "a box needs a tag not below 0 and two sizes" 47 51 hx hb hl9 hown (by decide +kernel) htb hz hnt hlocks hK hP hD hS tw_201 tw_12 at_IAE1 at_IAE2 at_IAE3 (by decide +kernel) hml hl.1 d_PM_box_18 d_PM_box_21 d_PM_box_22 d_PM_box_24 d_PM_box_27 (Nat.le_of_ble_eq_true rfl) (Nat.le_of_ble_eq_true rfl) (Nat.le_of_ble_eq_true rfl) (Nat.le_of_ble_eq_true rfl) (Nat.le_of_ble_eq_true rfl) (Nat.le_of_ble_eq_true rfl)
    · refine lv_if_eq (tgt := 18) hx hb d_PM_box_8 (by decide) (fun _ => ?_) (fun c0 => absurd c0 (by decide))
      exact pz_thr 54 "a box needs a tag not below 0 and two sizes" 47 51 hx hb hl9 hown (by decide +kernel) htb hz hnt hlocks hK hP hD hS tw_201 tw_12 at_IAE1 at_IAE2 at_IAE3 (by decide +kernel) hml hl.1 d_PM_box_18 d_PM_box_21 d_PM_box_22 d_PM_box_24 d_PM_box_27 (Nat.le_of_ble_eq_true rfl) (Nat.le_of_ble_eq_true rfl) (Nat.le_of_ble_eq_true rfl) (Nat.le_of_ble_eq_true rfl) (Nat.le_of_ble_eq_true rfl) (Nat.le_of_ble_eq_true rfl)
set_option maxHeartbeats 4000000 in
set_option maxRecDepth 100000 in
/-- glue, the numbers right -/
theorem c_PM_glue (l : Launch) (G : gG) (L : List Nat) (f : Nat → va_E) (sz : Nat) (pm al ad el ed fr op to sa fo : Nat) (xs ys : List Nat) (its : List It) (F9 : Fr) (pgs : List (Fr × Pg)) (F : Fr) (P : Op) (T : Tt) (wd st od sh : Int32) (hR : RX G L f pm al ad el ed fr op to sa fo xs ys (its, F9, pgs, F, P, T)) (hv0 : k_isS wd) (hv1 : k_isZ st) (hv2 : k_isZ sh) (hv3 : 0 ≤ od) (hv4 : od < 4) (hn5 : its.length < 512) (hpg : pgs.length ≤ 512) (hok9 : c_ok 4004001 (its ++ [.inr (.inl (wd, st, od, sh))], F9, pgs, F, P, T) its.length) : mI l y_PM_glue w_PM_glue ({ frames := 10, cells := 1 + (1 + 7 * ((c_run 4004001 (its ++ [.inr (.inl (wd, st, od, sh))], F9, pgs, F, P, T) its.length).1.2.2.1.length - pgs.length)), slots := 4 + (900 + 933 * ((c_run 4004001 (its ++ [.inr (.inl (wd, st, od, sh))], F9, pgs, F, P, T) its.length).1.2.2.1.length - pgs.length)), locals := 237 }) G L f sz [.ref pm, .int wd, .int st, .int od, .int sh] (1 + (1 + 7 * ((c_run 4004001 (its ++ [.inr (.inl (wd, st, od, sh))], F9, pgs, F, P, T) its.length).1.2.2.1.length - pgs.length))) (4 + (900 + 933 * ((c_run 4004001 (its ++ [.inr (.inl (wd, st, od, sh))], F9, pgs, F, P, T) its.length).1.2.2.1.length - pgs.length))) (fun r u => r = nI (c_run 4004001 (its ++ [.inr (.inl (wd, st, od, sh))], F9, pgs, F, P, T) its.length).1.2.2.1.length ∧ ∃ ad1 ed1 op1 to1 sa1 fo1 xs1 ys1, RX G u.1 u.2 pm al ad1 el ed1 fr op1 to1 sa1 fo1 xs1 ys1 (c_run 4004001 (its ++ [.inr (.inl (wd, st, od, sh))], F9, pgs, F, P, T) its.length).1) := by
  refine pz_met (cc := prog_1_method_4_code) (maxL := 5) (ret := (some .int)) (by decide) rfl (Nat.le_of_ble_eq_true rfl) ?_
  intro p e s m below meth c ls hx hb hr hml hts hown hlocks hin hsz hK hP hD hS hA hz hl
  have htb : ∀ w ∈ TB, w.before _ s = true := fun w h => hts w (List.mem_cons_of_mem _ h)
  have hl : lv_has ls 5 [(0, .ref pm), (1, .int wd), (2, .int st), (3, .int od), (4, .int sh)] := hl
  obtain ⟨hp, hfp, h_al, h_el, hne9, hdd, hX, hY, hr9, hfr, ho, hfo, ht, hft, hs9, hsa, hr8, hfof⟩ := id hR
  have hX : XR L f xs its := hX
  have hY : YR L f ys pgs := hY
  have hfr : f fr = frE F9 := hfr
  have hfo : f op = opE to fo P := hfo
  have hft : f to = toE sa T := hft
  have hsa : f sa = saE G T := hsa
  have hfof : f fo = frE F := hfof
  obtain ⟨mo_al, hm_al, hc_al, -⟩ := id h_al
  refine lv_iload_n hx hb d_PM_glue_0 rfl (lv_at hl 1 rfl) ?_
  refine vp_callSi (va_Run.run (va_runS (As := [.int wd]) (rest := []) ⟨hx, hb, hml, hown, hts⟩ (c_PM_isSize l wd) (cwS 1 hts (tb_S tw_197 tw_198 tw_1 tw_199) rfl rfl rfl (by decide +kernel) ⟨(Nat.le_of_ble_eq_true rfl), (Nat.le_of_ble_eq_true rfl)⟩) pz_preP rfl rfl hl.1 rfl (lv_room (Nat.le_of_ble_eq_true rfl)) d_PM_glue_1 ⟨(Nat.zero_le _), (Nat.zero_le _)⟩)) (fun r1 hw => ?_)
  have hw : r1 = 1 := k_by (show k_b (k_isS wd) r1 from hw) hv0
  subst hw
  refine lv_if_eq (tgt := 22) hx hb d_PM_glue_4 (by decide) (fun c0 => absurd c0 (by decide)) (fun _ => ?_)
  refine lv_iload_n hx hb d_PM_glue_7 rfl (lv_at hl 2 rfl) ?_
  refine vp_callSi (va_Run.run (va_runS (As := [.int st]) (rest := []) ⟨hx, hb, hml, hown, hts⟩ (c_PM_isSizeFromZero l st) (cwS 1 hts (tb_S tw_193 tw_194 tw_1 tw_195) rfl rfl rfl (by decide +kernel) ⟨(Nat.le_of_ble_eq_true rfl), (Nat.le_of_ble_eq_true rfl)⟩) pz_preP rfl rfl hl.1 rfl (lv_room (Nat.le_of_ble_eq_true rfl)) d_PM_glue_8 ⟨(Nat.zero_le _), (Nat.zero_le _)⟩)) (fun r2 hw => ?_)
  have hw : r2 = 1 := k_by (show k_b (k_isZ st) r2 from hw) hv1
  subst hw
  refine lv_if_eq (tgt := 22) hx hb d_PM_glue_11 (by decide) (fun c0 => absurd c0 (by decide)) (fun _ => ?_)
  refine lv_iload hx hb d_PM_glue_14 (lv_at hl 4 rfl) ?_
  refine vp_callSi (va_Run.run (va_runS (As := [.int sh]) (rest := []) ⟨hx, hb, hml, hown, hts⟩ (c_PM_isSizeFromZero l sh) (cwS 1 hts (tb_S tw_193 tw_194 tw_1 tw_195) rfl rfl rfl (by decide +kernel) ⟨(Nat.le_of_ble_eq_true rfl), (Nat.le_of_ble_eq_true rfl)⟩) pz_preP rfl rfl hl.1 rfl (lv_room (Nat.le_of_ble_eq_true rfl)) d_PM_glue_16 ⟨(Nat.zero_le _), (Nat.zero_le _)⟩)) (fun r3 hw => ?_)
  have hw : r3 = 1 := k_by (show k_b (k_isZ sh) r3 from hw) hv2
  subst hw
  refine lv_if_ne (tgt := 32) hx hb d_PM_glue_19 (by decide) (fun _ => ?_) (fun c0 => absurd c0 (by decide))
  refine lv_iload_n hx hb d_PM_glue_32 rfl (lv_at hl 3 rfl) ?_
  refine lv_if_lt (tgt := 41) hx hb d_PM_glue_33 (by decide) (fun c0 => absurd c0 (i32_nlt hv3)) (fun _ => ?_)
  refine lv_iload_n hx hb d_PM_glue_36 rfl (lv_at hl 3 rfl) ?_
  refine lv_iconst (v := 4) hx hb d_PM_glue_37 (by decide) ?_
  refine lv_icmp_lt (tgt := 51) hx hb d_PM_glue_38 (by decide) (fun _ => ?_) (fun c0 => absurd hv4 c0)
  refine lv_aload_n hx hb d_PM_glue_51 rfl (lv_at hl 0 rfl) ?_
  refine pz_cv (va_runV (As := []) (rest := []) ⟨hx, hb, hml, hown, hts⟩ (c_PM_needRoom l G L f _ pm al ad el ed fr op to sa fo xs ys its F9 pgs F P T hR hn5) (cwV 0 hts (tb_V tw_278 tw_280 tp_1 tw_1 tw_281) rfl rfl rfl (by decide +kernel) ⟨(Nat.le_of_ble_eq_true rfl), (Nat.le_of_ble_eq_true rfl)⟩) (pz_preV (zz_ok _ _ _) hK hP hD hS hA hz (ci := 4) rfl rfl hp hfp) rfl rfl hl.1 rfl (lv_room (Nat.le_of_ble_eq_true rfl)) d_PM_glue_52 ⟨(Nat.zero_le _), (Nat.zero_le _)⟩) hP hD hS hA (fun L8 f8 H locs hw hP hD hS => ?_)
  have eL8 : L8 = L := (Prod.mk.inj hw).1
  have ef8 : f8 = f := (Prod.mk.inj hw).2
  subst L8
  subst f8
  refine lv_aload_n hx hb d_PM_glue_55 rfl (lv_at hl 0 rfl) ?_
  refine pz_new (ci := 6) (fs := [.int 0, .int 0, .int 0, .int 0]) (C := "PageMaker$Glue") (T := T_GL) (N := 4) hx hb htb in_GL ty_GL to_GL hown (htb _ tw_440) (htb _ tw_549) (htb _ tw_23) hK hP hD hS hA rfl (fun j hj => by rcases (show j = 0 ∨ j = 1 ∨ j = 2 ∨ j = 3 by omega) with rfl | rfl | rfl | rfl <;> rfl) (Nat.le_add_right _ _) (Nat.le_add_right _ _) d_PM_glue_56 (fun q4 L5 f6 H hnq4 eL5 ef6 hP hD hS => ?_)
  subst L5
  refine lv_dup hx hb d_PM_glue_59 rfl ?_
  refine lv_iload_n hx hb d_PM_glue_60 rfl (lv_at hl 1 rfl) ?_
  refine lv_iload_n hx hb d_PM_glue_61 rfl (lv_at hl 2 rfl) ?_
  refine lv_iload_n hx hb d_PM_glue_62 rfl (lv_at hl 3 rfl) ?_
  refine lv_iload hx hb d_PM_glue_63 (lv_at hl 4 rfl) ?_
  have h_7 : f6 q4 = .inr (6, [.int 0, .int 0, .int 0, .int 0]) := by rw [ef6]; exact va_up_self _ _ _
  refine pz_cv (va_runI (As := [.int wd, .int st, .int od, .int sh]) (rest := [.ref q4, .ref pm]) ⟨hx, hb, hml, hown, hts⟩ (c_GL_init l G (L ++ [q4]) f6 _ q4 0 0 0 0 wd st od sh (l_in_new _ _) h_7) (cwI 4 hts (tb_good tw_552) rfl rfl rfl (htb _ tw_23) (htb _ tw_550) (htb _ tw_551) rfl (by decide +kernel) ⟨(Nat.le_of_ble_eq_true rfl), (Nat.le_of_ble_eq_true rfl)⟩) (pz_pre (zz_ok _ _ _) hK hP hD hS hA hz) rfl rfl hl.1 rfl (lv_room (Nat.le_of_ble_eq_true rfl)) d_PM_glue_65 ⟨(Nat.le_add_right _ _), (Nat.le_add_right _ _)⟩) hP hD hS hA (fun L9 f8 H locs hw hP hD hS => ?_)
  have ef8 : f8 = va_up (f6) q4 (.inr (6, [.int wd, .int st, .int od, .int sh])) := (Prod.mk.inj hw).2
  have eL9 : L9 = (L ++ [q4]) := (Prod.mk.inj hw).1
  subst L9
  have hR2 : RX G (L ++ [q4]) f8 pm al ad el ed fr op to sa fo xs ys (its, F9, pgs, F, P, T) := rx_grow hR hnq4 (fun z z1 => by rw [ef8, va_up_ne _ _ z1, ef6, va_up_ne _ _ z1])
  have hq2 : f8 q4 = itE (.inr (.inl (wd, st, od, sh))) := by rw [ef8]; exact va_up_self _ _ _
  have h_11 : f6 pm = .inr (4, [.ref al, .ref el, .ref fr, .ref op]) := by rw [ef6, va_up_ne _ _ (Ne.symm (pz_nef hnq4 hp))]; exact hfp
  have h_10 : f8 pm = .inr (4, [.ref al, .ref el, .ref fr, .ref op]) := by rw [ef8, va_up_ne _ _ (Ne.symm (pz_nef hnq4 hp))]; exact h_11
  refine pz_ci (va_runV (As := [.ref q4]) (rest := []) ⟨hx, hb, hml, hown, hts⟩ (c_PM_comeIn l G (L ++ [q4]) f8 _ pm al ad el ed fr op to sa fo xs ys its F9 pgs F P T q4 (.inr (.inl (wd, st, od, sh))) hR2 (l_in_new _ _) hq2 (vp_in4 hv3 hv4) hn5 hpg hok9) (cwV 1 hts (tb_V tw_316 tw_318 tp_2 tw_1 tw_319) rfl rfl rfl (by decide +kernel) ⟨(Nat.le_of_ble_eq_true rfl), (Nat.le_of_ble_eq_true rfl)⟩) (pz_preV (zz_ok _ _ _) hK hP hD hS hA hz (ci := 4) rfl rfl (List.mem_append_left _ hp) h_10) rfl rfl hl.1 rfl (lv_room (Nat.le_of_ble_eq_true rfl)) d_PM_glue_68 ⟨(Nat.le_refl _), (Nat.le_refl _)⟩) hP hD hS hA (fun r9 L9 f9 H locs hw hP hD hS => ?_)
  obtain ⟨er9, ad1, ed1, op1, to1, sa1, fo1, ys1, hR9⟩ := hw
  exact pz_iret hx hb hr rfl hlocks hK hP hD hS (Nat.le_refl _) (Nat.le_refl _) ⟨er9, ad1, ed1, op1, to1, sa1, fo1, _, ys1, hR9⟩ d_PM_glue_71
set_option maxHeartbeats 4000000 in
set_option maxRecDepth 100000 in
/-- glue throws -/
theorem x_PM_glue (l : Launch) (hl9 : l.stackTraces = false) (G : gG) (L : List Nat) (f : Nat → va_E) (sz : Nat) (pm : Nat) (wd st od sh : Int32) (hno : ¬ (k_isS wd ∧ k_isZ st ∧ k_isZ sh ∧ 0 ≤ od ∧ od < 4)) : mX l y_PM_glue w_PM_glue ({ frames := 6, cells := 1, slots := 6, locals := 82 }) G L f sz [.ref pm, .int wd, .int st, .int od, .int sh] "java/lang/IllegalArgumentException" := by
  refine pz_metX (cc := prog_1_method_4_code) (maxL := 5) (ret := (some .int)) (by decide) rfl (Nat.le_of_ble_eq_true rfl) ?_
  intro p e s m below meth c ls hx hb hr hml hts hown hlocks hnt hsz hK hP hD hS hA hz hl
  have htb : ∀ w ∈ TB, w.before _ s = true := fun w h => hts w (List.mem_cons_of_mem _ h)
  have hl : lv_has ls 5 [(0, .ref pm), (1, .int wd), (2, .int st), (3, .int od), (4, .int sh)] := hl
  refine lv_iload_n hx hb d_PM_glue_0 rfl (lv_at hl 1 rfl) ?_
  refine vp_callSi (va_Run.run (va_runS (As := [.int wd]) (rest := []) ⟨hx, hb, hml, hown, hts⟩ (c_PM_isSize l wd) (cwS 1 hts (tb_S tw_197 tw_198 tw_1 tw_199) rfl rfl rfl (by decide +kernel) ⟨(Nat.le_of_ble_eq_true rfl), (Nat.le_of_ble_eq_true rfl)⟩) pz_preP rfl rfl hl.1 rfl (lv_room (Nat.le_of_ble_eq_true rfl)) d_PM_glue_1 ⟨(Nat.le_of_ble_eq_true rfl), (Nat.le_of_ble_eq_true rfl)⟩)) (fun r1 hw => ?_)
  rcases (show k_b (k_isS wd) r1 from hw) with ⟨rfl, hq2⟩ | ⟨rfl, hq2⟩
  · refine lv_if_eq (tgt := 22) hx hb d_PM_glue_4 (by decide) (fun c0 => absurd c0 (by decide)) (fun _ => ?_)
    refine lv_iload_n hx hb d_PM_glue_7 rfl (lv_at hl 2 rfl) ?_
    refine vp_callSi (va_Run.run (va_runS (As := [.int st]) (rest := []) ⟨hx, hb, hml, hown, hts⟩ (c_PM_isSizeFromZero l st) (cwS 1 hts (tb_S tw_193 tw_194 tw_1 tw_195) rfl rfl rfl (by decide +kernel) ⟨(Nat.le_of_ble_eq_true rfl), (Nat.le_of_ble_eq_true rfl)⟩) pz_preP rfl rfl hl.1 rfl (lv_room (Nat.le_of_ble_eq_true rfl)) d_PM_glue_8 ⟨(Nat.le_of_ble_eq_true rfl), (Nat.le_of_ble_eq_true rfl)⟩)) (fun r3 hw => ?_)
    rcases (show k_b (k_isZ st) r3 from hw) with ⟨rfl, hq4⟩ | ⟨rfl, hq4⟩
    · refine lv_if_eq (tgt := 22) hx hb d_PM_glue_11 (by decide) (fun c0 => absurd c0 (by decide)) (fun _ => ?_)
      refine lv_iload hx hb d_PM_glue_14 (lv_at hl 4 rfl) ?_
      refine vp_callSi (va_Run.run (va_runS (As := [.int sh]) (rest := []) ⟨hx, hb, hml, hown, hts⟩ (c_PM_isSizeFromZero l sh) (cwS 1 hts (tb_S tw_193 tw_194 tw_1 tw_195) rfl rfl rfl (by decide +kernel) ⟨(Nat.le_of_ble_eq_true rfl), (Nat.le_of_ble_eq_true rfl)⟩) pz_preP rfl rfl hl.1 rfl (lv_room (Nat.le_of_ble_eq_true rfl)) d_PM_glue_16 ⟨(Nat.le_of_ble_eq_true rfl), (Nat.le_of_ble_eq_true rfl)⟩)) (fun r5 hw => ?_)
      rcases (show k_b (k_isZ sh) r5 from hw) with ⟨rfl, hq6⟩ | ⟨rfl, hq6⟩
      · refine lv_if_ne (tgt := 32) hx hb d_PM_glue_19 (by decide) (fun _ => ?_) (fun c0 => absurd c0 (by decide))
        refine lv_iload_n hx hb d_PM_glue_32 rfl (lv_at hl 3 rfl) ?_
        refine lv_if_lt (tgt := 41) hx hb d_PM_glue_33 (by decide) (fun c_7 => ?_) (fun c_7 => ?_)
        · exact pz_thr 70 "the order of glue is 0 to 3" 47 51 hx hb hl9 hown (by decide +kernel) htb hz hnt hlocks hK hP hD hS tw_201 tw_12 at_IAE1 at_IAE2 at_IAE3 (by decide +kernel) hml hl.1 d_PM_glue_41 d_PM_glue_44 d_PM_glue_45 d_PM_glue_47 d_PM_glue_50 (Nat.le_of_ble_eq_true rfl) (Nat.le_of_ble_eq_true rfl) (Nat.le_of_ble_eq_true rfl) (Nat.le_of_ble_eq_true rfl) (Nat.le_of_ble_eq_true rfl) (Nat.le_of_ble_eq_true rfl)
        · refine lv_iload_n hx hb d_PM_glue_36 rfl (lv_at hl 3 rfl) ?_
          refine lv_iconst (v := 4) hx hb d_PM_glue_37 (by decide) ?_
          refine lv_icmp_lt (tgt := 51) hx hb d_PM_glue_38 (by decide) (fun c_8 => ?_) (fun c_8 => ?_)
          · exact absurd ⟨hq2, hq4, hq6, (i32_le c_7), c_8⟩ hno
          · exact pz_thr 70 "the order of glue is 0 to 3" 47 51 hx hb hl9 hown (by decide +kernel) htb hz hnt hlocks hK hP hD hS tw_201 tw_12 at_IAE1 at_IAE2 at_IAE3 (by decide +kernel) hml hl.1 d_PM_glue_41 d_PM_glue_44 d_PM_glue_45 d_PM_glue_47 d_PM_glue_50 (Nat.le_of_ble_eq_true rfl) (Nat.le_of_ble_eq_true rfl) (Nat.le_of_ble_eq_true rfl) (Nat.le_of_ble_eq_true rfl) (Nat.le_of_ble_eq_true rfl) (Nat.le_of_ble_eq_true rfl)
      · refine lv_if_ne (tgt := 32) hx hb d_PM_glue_19 (by decide) (fun c0 => absurd c0 (by decide)) (fun _ => ?_)
        exact pz_thr 68 "glue needs sizes, its stretch and shrink not below 0" 47 51 hx hb hl9 hown (by decide +kernel) htb hz hnt hlocks hK hP hD hS tw_201 tw_12 at_IAE1 at_IAE2 at_IAE3 (by decide +kernel) hml hl.1 d_PM_glue_22 d_PM_glue_25 d_PM_glue_26 d_PM_glue_28 d_PM_glue_31 (Nat.le_of_ble_eq_true rfl) (Nat.le_of_ble_eq_true rfl) (Nat.le_of_ble_eq_true rfl) (Nat.le_of_ble_eq_true rfl) (Nat.le_of_ble_eq_true rfl) (Nat.le_of_ble_eq_true rfl)
    · refine lv_if_eq (tgt := 22) hx hb d_PM_glue_11 (by decide) (fun _ => ?_) (fun c0 => absurd c0 (by decide))
      exact pz_thr 68 "glue needs sizes, its stretch and shrink not below 0" 47 51 hx hb hl9 hown (by decide +kernel) htb hz hnt hlocks hK hP hD hS tw_201 tw_12 at_IAE1 at_IAE2 at_IAE3 (by decide +kernel) hml hl.1 d_PM_glue_22 d_PM_glue_25 d_PM_glue_26 d_PM_glue_28 d_PM_glue_31 (Nat.le_of_ble_eq_true rfl) (Nat.le_of_ble_eq_true rfl) (Nat.le_of_ble_eq_true rfl) (Nat.le_of_ble_eq_true rfl) (Nat.le_of_ble_eq_true rfl) (Nat.le_of_ble_eq_true rfl)
  · refine lv_if_eq (tgt := 22) hx hb d_PM_glue_4 (by decide) (fun _ => ?_) (fun c0 => absurd c0 (by decide))
    exact pz_thr 68 "glue needs sizes, its stretch and shrink not below 0" 47 51 hx hb hl9 hown (by decide +kernel) htb hz hnt hlocks hK hP hD hS tw_201 tw_12 at_IAE1 at_IAE2 at_IAE3 (by decide +kernel) hml hl.1 d_PM_glue_22 d_PM_glue_25 d_PM_glue_26 d_PM_glue_28 d_PM_glue_31 (Nat.le_of_ble_eq_true rfl) (Nat.le_of_ble_eq_true rfl) (Nat.le_of_ble_eq_true rfl) (Nat.le_of_ble_eq_true rfl) (Nat.le_of_ble_eq_true rfl) (Nat.le_of_ble_eq_true rfl)
set_option maxHeartbeats 4000000 in
set_option maxRecDepth 100000 in
/-- kern, the numbers right -/
theorem c_PM_kern (l : Launch) (G : gG) (L : List Nat) (f : Nat → va_E) (sz : Nat) (pm al ad el ed fr op to sa fo : Nat) (xs ys : List Nat) (its : List It) (F9 : Fr) (pgs : List (Fr × Pg)) (F : Fr) (P : Op) (T : Tt) (wd : Int32) (hR : RX G L f pm al ad el ed fr op to sa fo xs ys (its, F9, pgs, F, P, T)) (hv0 : k_isS wd) (hn5 : its.length < 512) (hpg : pgs.length ≤ 512) (hok9 : c_ok 4004001 (its ++ [.inr (.inr (.inl wd))], F9, pgs, F, P, T) its.length) : mI l y_PM_kern w_PM_kern ({ frames := 10, cells := 1 + (1 + 7 * ((c_run 4004001 (its ++ [.inr (.inr (.inl wd))], F9, pgs, F, P, T) its.length).1.2.2.1.length - pgs.length)), slots := 1 + (900 + 933 * ((c_run 4004001 (its ++ [.inr (.inr (.inl wd))], F9, pgs, F, P, T) its.length).1.2.2.1.length - pgs.length)), locals := 237 }) G L f sz [.ref pm, .int wd] (1 + (1 + 7 * ((c_run 4004001 (its ++ [.inr (.inr (.inl wd))], F9, pgs, F, P, T) its.length).1.2.2.1.length - pgs.length))) (1 + (900 + 933 * ((c_run 4004001 (its ++ [.inr (.inr (.inl wd))], F9, pgs, F, P, T) its.length).1.2.2.1.length - pgs.length))) (fun r u => r = nI (c_run 4004001 (its ++ [.inr (.inr (.inl wd))], F9, pgs, F, P, T) its.length).1.2.2.1.length ∧ ∃ ad1 ed1 op1 to1 sa1 fo1 xs1 ys1, RX G u.1 u.2 pm al ad1 el ed1 fr op1 to1 sa1 fo1 xs1 ys1 (c_run 4004001 (its ++ [.inr (.inr (.inl wd))], F9, pgs, F, P, T) its.length).1) := by
  refine pz_met (cc := prog_1_method_5_code) (maxL := 2) (ret := (some .int)) (by decide) rfl (Nat.le_of_ble_eq_true rfl) ?_
  intro p e s m below meth c ls hx hb hr hml hts hown hlocks hin hsz hK hP hD hS hA hz hl
  have htb : ∀ w ∈ TB, w.before _ s = true := fun w h => hts w (List.mem_cons_of_mem _ h)
  have hl : lv_has ls 2 [(0, .ref pm), (1, .int wd)] := hl
  obtain ⟨hp, hfp, h_al, h_el, hne9, hdd, hX, hY, hr9, hfr, ho, hfo, ht, hft, hs9, hsa, hr8, hfof⟩ := id hR
  have hX : XR L f xs its := hX
  have hY : YR L f ys pgs := hY
  have hfr : f fr = frE F9 := hfr
  have hfo : f op = opE to fo P := hfo
  have hft : f to = toE sa T := hft
  have hsa : f sa = saE G T := hsa
  have hfof : f fo = frE F := hfof
  obtain ⟨mo_al, hm_al, hc_al, -⟩ := id h_al
  refine lv_iload_n hx hb d_PM_kern_0 rfl (lv_at hl 1 rfl) ?_
  refine vp_callSi (va_Run.run (va_runS (As := [.int wd]) (rest := []) ⟨hx, hb, hml, hown, hts⟩ (c_PM_isSize l wd) (cwS 1 hts (tb_S tw_197 tw_198 tw_1 tw_199) rfl rfl rfl (by decide +kernel) ⟨(Nat.le_of_ble_eq_true rfl), (Nat.le_of_ble_eq_true rfl)⟩) pz_preP rfl rfl hl.1 rfl (lv_room (Nat.le_of_ble_eq_true rfl)) d_PM_kern_1 ⟨(Nat.zero_le _), (Nat.zero_le _)⟩)) (fun r1 hw => ?_)
  have hw : r1 = 1 := k_by (show k_b (k_isS wd) r1 from hw) hv0
  subst hw
  refine lv_if_ne (tgt := 17) hx hb d_PM_kern_4 (by decide) (fun _ => ?_) (fun c0 => absurd c0 (by decide))
  refine lv_aload_n hx hb d_PM_kern_17 rfl (lv_at hl 0 rfl) ?_
  refine pz_cv (va_runV (As := []) (rest := []) ⟨hx, hb, hml, hown, hts⟩ (c_PM_needRoom l G L f _ pm al ad el ed fr op to sa fo xs ys its F9 pgs F P T hR hn5) (cwV 0 hts (tb_V tw_278 tw_280 tp_1 tw_1 tw_281) rfl rfl rfl (by decide +kernel) ⟨(Nat.le_of_ble_eq_true rfl), (Nat.le_of_ble_eq_true rfl)⟩) (pz_preV (zz_ok _ _ _) hK hP hD hS hA hz (ci := 4) rfl rfl hp hfp) rfl rfl hl.1 rfl (lv_room (Nat.le_of_ble_eq_true rfl)) d_PM_kern_18 ⟨(Nat.zero_le _), (Nat.zero_le _)⟩) hP hD hS hA (fun L8 f8 H locs hw hP hD hS => ?_)
  have eL8 : L8 = L := (Prod.mk.inj hw).1
  have ef8 : f8 = f := (Prod.mk.inj hw).2
  subst L8
  subst f8
  refine lv_aload_n hx hb d_PM_kern_21 rfl (lv_at hl 0 rfl) ?_
  refine pz_new (ci := 7) (fs := [.int 0]) (C := "PageMaker$Kern") (T := T_KE) (N := 1) hx hb htb in_KE ty_KE to_KE hown (htb _ tw_441) (htb _ tw_575) (htb _ tw_24) hK hP hD hS hA rfl (fun j hj => by rcases (show j = 0 by omega) with rfl <;> rfl) (Nat.le_add_right _ _) (Nat.le_add_right _ _) d_PM_kern_22 (fun q2 L3 f4 H hnq2 eL3 ef4 hP hD hS => ?_)
  subst L3
  refine lv_dup hx hb d_PM_kern_25 rfl ?_
  refine lv_iload_n hx hb d_PM_kern_26 rfl (lv_at hl 1 rfl) ?_
  have h_5 : f4 q2 = .inr (7, [.int 0]) := by rw [ef4]; exact va_up_self _ _ _
  refine pz_cv (va_runI (As := [.int wd]) (rest := [.ref q2, .ref pm]) ⟨hx, hb, hml, hown, hts⟩ (c_KE_init l G (L ++ [q2]) f4 _ q2 0 wd (l_in_new _ _) h_5) (cwI 1 hts (tb_good tw_578) rfl rfl rfl (htb _ tw_24) (htb _ tw_576) (htb _ tw_577) rfl (by decide +kernel) ⟨(Nat.le_of_ble_eq_true rfl), (Nat.le_of_ble_eq_true rfl)⟩) (pz_pre (zz_ok _ _ _) hK hP hD hS hA hz) rfl rfl hl.1 rfl (lv_room (Nat.le_of_ble_eq_true rfl)) d_PM_kern_27 ⟨(Nat.le_add_right _ _), (Nat.le_add_right _ _)⟩) hP hD hS hA (fun L7 f6 H locs hw hP hD hS => ?_)
  have ef6 : f6 = va_up (f4) q2 (.inr (7, [.int wd])) := (Prod.mk.inj hw).2
  have eL7 : L7 = (L ++ [q2]) := (Prod.mk.inj hw).1
  subst L7
  have hR2 : RX G (L ++ [q2]) f6 pm al ad el ed fr op to sa fo xs ys (its, F9, pgs, F, P, T) := rx_grow hR hnq2 (fun z z1 => by rw [ef6, va_up_ne _ _ z1, ef4, va_up_ne _ _ z1])
  have hq2 : f6 q2 = itE (.inr (.inr (.inl wd))) := by rw [ef6]; exact va_up_self _ _ _
  have h_9 : f4 pm = .inr (4, [.ref al, .ref el, .ref fr, .ref op]) := by rw [ef4, va_up_ne _ _ (Ne.symm (pz_nef hnq2 hp))]; exact hfp
  have h_8 : f6 pm = .inr (4, [.ref al, .ref el, .ref fr, .ref op]) := by rw [ef6, va_up_ne _ _ (Ne.symm (pz_nef hnq2 hp))]; exact h_9
  refine pz_ci (va_runV (As := [.ref q2]) (rest := []) ⟨hx, hb, hml, hown, hts⟩ (c_PM_comeIn l G (L ++ [q2]) f6 _ pm al ad el ed fr op to sa fo xs ys its F9 pgs F P T q2 (.inr (.inr (.inl wd))) hR2 (l_in_new _ _) hq2 trivial hn5 hpg hok9) (cwV 1 hts (tb_V tw_316 tw_318 tp_2 tw_1 tw_319) rfl rfl rfl (by decide +kernel) ⟨(Nat.le_of_ble_eq_true rfl), (Nat.le_of_ble_eq_true rfl)⟩) (pz_preV (zz_ok _ _ _) hK hP hD hS hA hz (ci := 4) rfl rfl (List.mem_append_left _ hp) h_8) rfl rfl hl.1 rfl (lv_room (Nat.le_of_ble_eq_true rfl)) d_PM_kern_30 ⟨(Nat.le_refl _), (Nat.le_refl _)⟩) hP hD hS hA (fun r9 L9 f9 H locs hw hP hD hS => ?_)
  obtain ⟨er9, ad1, ed1, op1, to1, sa1, fo1, ys1, hR9⟩ := hw
  exact pz_iret hx hb hr rfl hlocks hK hP hD hS (Nat.le_refl _) (Nat.le_refl _) ⟨er9, ad1, ed1, op1, to1, sa1, fo1, _, ys1, hR9⟩ d_PM_kern_33
set_option maxHeartbeats 4000000 in
set_option maxRecDepth 100000 in
/-- kern throws -/
theorem x_PM_kern (l : Launch) (hl9 : l.stackTraces = false) (G : gG) (L : List Nat) (f : Nat → va_E) (sz : Nat) (pm : Nat) (wd : Int32) (hno : ¬ (k_isS wd)) : mX l y_PM_kern w_PM_kern ({ frames := 6, cells := 1, slots := 6, locals := 82 }) G L f sz [.ref pm, .int wd] "java/lang/IllegalArgumentException" := by
  refine pz_metX (cc := prog_1_method_5_code) (maxL := 2) (ret := (some .int)) (by decide) rfl (Nat.le_of_ble_eq_true rfl) ?_
  intro p e s m below meth c ls hx hb hr hml hts hown hlocks hnt hsz hK hP hD hS hA hz hl
  have htb : ∀ w ∈ TB, w.before _ s = true := fun w h => hts w (List.mem_cons_of_mem _ h)
  have hl : lv_has ls 2 [(0, .ref pm), (1, .int wd)] := hl
  refine lv_iload_n hx hb d_PM_kern_0 rfl (lv_at hl 1 rfl) ?_
  refine vp_callSi (va_Run.run (va_runS (As := [.int wd]) (rest := []) ⟨hx, hb, hml, hown, hts⟩ (c_PM_isSize l wd) (cwS 1 hts (tb_S tw_197 tw_198 tw_1 tw_199) rfl rfl rfl (by decide +kernel) ⟨(Nat.le_of_ble_eq_true rfl), (Nat.le_of_ble_eq_true rfl)⟩) pz_preP rfl rfl hl.1 rfl (lv_room (Nat.le_of_ble_eq_true rfl)) d_PM_kern_1 ⟨(Nat.le_of_ble_eq_true rfl), (Nat.le_of_ble_eq_true rfl)⟩)) (fun r1 hw => ?_)
  rcases (show k_b (k_isS wd) r1 from hw) with ⟨rfl, hq2⟩ | ⟨rfl, hq2⟩
  · exact absurd hq2 hno
  · refine lv_if_ne (tgt := 17) hx hb d_PM_kern_4 (by decide) (fun c0 => absurd c0 (by decide)) (fun _ => ?_)
    exact pz_thr 77 "a kern needs a size" 47 51 hx hb hl9 hown (by decide +kernel) htb hz hnt hlocks hK hP hD hS tw_201 tw_12 at_IAE1 at_IAE2 at_IAE3 (by decide +kernel) hml hl.1 d_PM_kern_7 d_PM_kern_10 d_PM_kern_11 d_PM_kern_13 d_PM_kern_16 (Nat.le_of_ble_eq_true rfl) (Nat.le_of_ble_eq_true rfl) (Nat.le_of_ble_eq_true rfl) (Nat.le_of_ble_eq_true rfl) (Nat.le_of_ble_eq_true rfl) (Nat.le_of_ble_eq_true rfl)
set_option maxHeartbeats 4000000 in
set_option maxRecDepth 100000 in
/-- penalty, the numbers right -/
theorem c_PM_penalty (l : Launch) (G : gG) (L : List Nat) (f : Nat → va_E) (sz : Nat) (pm al ad el ed fr op to sa fo : Nat) (xs ys : List Nat) (its : List It) (F9 : Fr) (pgs : List (Fr × Pg)) (F : Fr) (P : Op) (T : Tt) (pp : Int32) (hR : RX G L f pm al ad el ed fr op to sa fo xs ys (its, F9, pgs, F, P, T)) (hv0 : (-100000) ≤ pp) (hv1 : pp ≤ 100000) (hn5 : its.length < 512) (hpg : pgs.length ≤ 512) (hok9 : c_ok 4004001 (its ++ [.inr (.inr (.inr pp))], F9, pgs, F, P, T) its.length) : mI l y_PM_penalty w_PM_penalty ({ frames := 10, cells := 1 + (1 + 7 * ((c_run 4004001 (its ++ [.inr (.inr (.inr pp))], F9, pgs, F, P, T) its.length).1.2.2.1.length - pgs.length)), slots := 1 + (900 + 933 * ((c_run 4004001 (its ++ [.inr (.inr (.inr pp))], F9, pgs, F, P, T) its.length).1.2.2.1.length - pgs.length)), locals := 237 }) G L f sz [.ref pm, .int pp] (1 + (1 + 7 * ((c_run 4004001 (its ++ [.inr (.inr (.inr pp))], F9, pgs, F, P, T) its.length).1.2.2.1.length - pgs.length))) (1 + (900 + 933 * ((c_run 4004001 (its ++ [.inr (.inr (.inr pp))], F9, pgs, F, P, T) its.length).1.2.2.1.length - pgs.length))) (fun r u => r = nI (c_run 4004001 (its ++ [.inr (.inr (.inr pp))], F9, pgs, F, P, T) its.length).1.2.2.1.length ∧ ∃ ad1 ed1 op1 to1 sa1 fo1 xs1 ys1, RX G u.1 u.2 pm al ad1 el ed1 fr op1 to1 sa1 fo1 xs1 ys1 (c_run 4004001 (its ++ [.inr (.inr (.inr pp))], F9, pgs, F, P, T) its.length).1) := by
  refine pz_met (cc := prog_1_method_6_code) (maxL := 2) (ret := (some .int)) (by decide) rfl (Nat.le_of_ble_eq_true rfl) ?_
  intro p e s m below meth c ls hx hb hr hml hts hown hlocks hin hsz hK hP hD hS hA hz hl
  have htb : ∀ w ∈ TB, w.before _ s = true := fun w h => hts w (List.mem_cons_of_mem _ h)
  have hl : lv_has ls 2 [(0, .ref pm), (1, .int pp)] := hl
  obtain ⟨hp, hfp, h_al, h_el, hne9, hdd, hX, hY, hr9, hfr, ho, hfo, ht, hft, hs9, hsa, hr8, hfof⟩ := id hR
  have hX : XR L f xs its := hX
  have hY : YR L f ys pgs := hY
  have hfr : f fr = frE F9 := hfr
  have hfo : f op = opE to fo P := hfo
  have hft : f to = toE sa T := hft
  have hsa : f sa = saE G T := hsa
  have hfof : f fo = frE F := hfof
  obtain ⟨mo_al, hm_al, hc_al, -⟩ := id h_al
  refine lv_iload_n hx hb d_PM_penalty_0 rfl (lv_at hl 1 rfl) ?_
  refine lv_ldc (v := (-100000)) hx hb hown (htb _ tw_591) d_PM_penalty_1 ?_
  refine lv_icmp_lt (tgt := 12) hx hb d_PM_penalty_3 (by decide) (fun c0 => absurd c0 (i32_nlt hv0)) (fun _ => ?_)
  refine lv_iload_n hx hb d_PM_penalty_6 rfl (lv_at hl 1 rfl) ?_
  refine lv_ldc (v := 100000) hx hb hown (htb _ tw_439) d_PM_penalty_7 ?_
  refine lv_icmp_le (tgt := 22) hx hb d_PM_penalty_9 (by decide) (fun _ => ?_) (fun c0 => absurd hv1 c0)
  refine lv_aload_n hx hb d_PM_penalty_22 rfl (lv_at hl 0 rfl) ?_
  refine pz_cv (va_runV (As := []) (rest := []) ⟨hx, hb, hml, hown, hts⟩ (c_PM_needRoom l G L f _ pm al ad el ed fr op to sa fo xs ys its F9 pgs F P T hR hn5) (cwV 0 hts (tb_V tw_278 tw_280 tp_1 tw_1 tw_281) rfl rfl rfl (by decide +kernel) ⟨(Nat.le_of_ble_eq_true rfl), (Nat.le_of_ble_eq_true rfl)⟩) (pz_preV (zz_ok _ _ _) hK hP hD hS hA hz (ci := 4) rfl rfl hp hfp) rfl rfl hl.1 rfl (lv_room (Nat.le_of_ble_eq_true rfl)) d_PM_penalty_23 ⟨(Nat.zero_le _), (Nat.zero_le _)⟩) hP hD hS hA (fun L8 f8 H locs hw hP hD hS => ?_)
  have eL8 : L8 = L := (Prod.mk.inj hw).1
  have ef8 : f8 = f := (Prod.mk.inj hw).2
  subst L8
  subst f8
  refine lv_aload_n hx hb d_PM_penalty_26 rfl (lv_at hl 0 rfl) ?_
  refine pz_new (ci := 8) (fs := [.int 0]) (C := "PageMaker$Penalty") (T := T_PE) (N := 1) hx hb htb in_PE ty_PE to_PE hown (htb _ tw_413) (htb _ tw_593) (htb _ tw_25) hK hP hD hS hA rfl (fun j hj => by rcases (show j = 0 by omega) with rfl <;> rfl) (Nat.le_add_right _ _) (Nat.le_add_right _ _) d_PM_penalty_27 (fun q1 L2 f3 H hnq1 eL2 ef3 hP hD hS => ?_)
  subst L2
  refine lv_dup hx hb d_PM_penalty_30 rfl ?_
  refine lv_iload_n hx hb d_PM_penalty_31 rfl (lv_at hl 1 rfl) ?_
  have h_4 : f3 q1 = .inr (8, [.int 0]) := by rw [ef3]; exact va_up_self _ _ _
  refine pz_cv (va_runI (As := [.int pp]) (rest := [.ref q1, .ref pm]) ⟨hx, hb, hml, hown, hts⟩ (c_PE_init l G (L ++ [q1]) f3 _ q1 0 pp (l_in_new _ _) h_4) (cwI 1 hts (tb_good tw_596) rfl rfl rfl (htb _ tw_25) (htb _ tw_594) (htb _ tw_595) rfl (by decide +kernel) ⟨(Nat.le_of_ble_eq_true rfl), (Nat.le_of_ble_eq_true rfl)⟩) (pz_pre (zz_ok _ _ _) hK hP hD hS hA hz) rfl rfl hl.1 rfl (lv_room (Nat.le_of_ble_eq_true rfl)) d_PM_penalty_32 ⟨(Nat.le_add_right _ _), (Nat.le_add_right _ _)⟩) hP hD hS hA (fun L6 f5 H locs hw hP hD hS => ?_)
  have ef5 : f5 = va_up (f3) q1 (.inr (8, [.int pp])) := (Prod.mk.inj hw).2
  have eL6 : L6 = (L ++ [q1]) := (Prod.mk.inj hw).1
  subst L6
  have hR2 : RX G (L ++ [q1]) f5 pm al ad el ed fr op to sa fo xs ys (its, F9, pgs, F, P, T) := rx_grow hR hnq1 (fun z z1 => by rw [ef5, va_up_ne _ _ z1, ef3, va_up_ne _ _ z1])
  have hq2 : f5 q1 = itE (.inr (.inr (.inr pp))) := by rw [ef5]; exact va_up_self _ _ _
  have h_8 : f3 pm = .inr (4, [.ref al, .ref el, .ref fr, .ref op]) := by rw [ef3, va_up_ne _ _ (Ne.symm (pz_nef hnq1 hp))]; exact hfp
  have h_7 : f5 pm = .inr (4, [.ref al, .ref el, .ref fr, .ref op]) := by rw [ef5, va_up_ne _ _ (Ne.symm (pz_nef hnq1 hp))]; exact h_8
  refine pz_ci (va_runV (As := [.ref q1]) (rest := []) ⟨hx, hb, hml, hown, hts⟩ (c_PM_comeIn l G (L ++ [q1]) f5 _ pm al ad el ed fr op to sa fo xs ys its F9 pgs F P T q1 (.inr (.inr (.inr pp))) hR2 (l_in_new _ _) hq2 trivial hn5 hpg hok9) (cwV 1 hts (tb_V tw_316 tw_318 tp_2 tw_1 tw_319) rfl rfl rfl (by decide +kernel) ⟨(Nat.le_of_ble_eq_true rfl), (Nat.le_of_ble_eq_true rfl)⟩) (pz_preV (zz_ok _ _ _) hK hP hD hS hA hz (ci := 4) rfl rfl (List.mem_append_left _ hp) h_7) rfl rfl hl.1 rfl (lv_room (Nat.le_of_ble_eq_true rfl)) d_PM_penalty_35 ⟨(Nat.le_refl _), (Nat.le_refl _)⟩) hP hD hS hA (fun r9 L9 f9 H locs hw hP hD hS => ?_)
  obtain ⟨er9, ad1, ed1, op1, to1, sa1, fo1, ys1, hR9⟩ := hw
  exact pz_iret hx hb hr rfl hlocks hK hP hD hS (Nat.le_refl _) (Nat.le_refl _) ⟨er9, ad1, ed1, op1, to1, sa1, fo1, _, ys1, hR9⟩ d_PM_penalty_38
set_option maxHeartbeats 4000000 in
set_option maxRecDepth 100000 in
/-- penalty throws -/
theorem x_PM_penalty (l : Launch) (hl9 : l.stackTraces = false) (G : gG) (L : List Nat) (f : Nat → va_E) (sz : Nat) (pm : Nat) (pp : Int32) (hno : ¬ ((-100000) ≤ pp ∧ pp ≤ 100000)) : mX l y_PM_penalty w_PM_penalty ({ frames := 6, cells := 1, slots := 6, locals := 82 }) G L f sz [.ref pm, .int pp] "java/lang/IllegalArgumentException" := by
  refine pz_metX (cc := prog_1_method_6_code) (maxL := 2) (ret := (some .int)) (by decide) rfl (Nat.le_of_ble_eq_true rfl) ?_
  intro p e s m below meth c ls hx hb hr hml hts hown hlocks hnt hsz hK hP hD hS hA hz hl
  have htb : ∀ w ∈ TB, w.before _ s = true := fun w h => hts w (List.mem_cons_of_mem _ h)
  have hl : lv_has ls 2 [(0, .ref pm), (1, .int pp)] := hl
  refine lv_iload_n hx hb d_PM_penalty_0 rfl (lv_at hl 1 rfl) ?_
  refine lv_ldc (v := (-100000)) hx hb hown (htb _ tw_591) d_PM_penalty_1 ?_
  refine lv_icmp_lt (tgt := 12) hx hb d_PM_penalty_3 (by decide) (fun c_1 => ?_) (fun c_1 => ?_)
  · exact pz_thr 86 "a penalty is -100000 to 100000" 47 51 hx hb hl9 hown (by decide +kernel) htb hz hnt hlocks hK hP hD hS tw_201 tw_12 at_IAE1 at_IAE2 at_IAE3 (by decide +kernel) hml hl.1 d_PM_penalty_12 d_PM_penalty_15 d_PM_penalty_16 d_PM_penalty_18 d_PM_penalty_21 (Nat.le_of_ble_eq_true rfl) (Nat.le_of_ble_eq_true rfl) (Nat.le_of_ble_eq_true rfl) (Nat.le_of_ble_eq_true rfl) (Nat.le_of_ble_eq_true rfl) (Nat.le_of_ble_eq_true rfl)
  · refine lv_iload_n hx hb d_PM_penalty_6 rfl (lv_at hl 1 rfl) ?_
    refine lv_ldc (v := 100000) hx hb hown (htb _ tw_439) d_PM_penalty_7 ?_
    refine lv_icmp_le (tgt := 22) hx hb d_PM_penalty_9 (by decide) (fun c_2 => ?_) (fun c_2 => ?_)
    · exact absurd ⟨(i32_le c_1), c_2⟩ hno
    · exact pz_thr 86 "a penalty is -100000 to 100000" 47 51 hx hb hl9 hown (by decide +kernel) htb hz hnt hlocks hK hP hD hS tw_201 tw_12 at_IAE1 at_IAE2 at_IAE3 (by decide +kernel) hml hl.1 d_PM_penalty_12 d_PM_penalty_15 d_PM_penalty_16 d_PM_penalty_18 d_PM_penalty_21 (Nat.le_of_ble_eq_true rfl) (Nat.le_of_ble_eq_true rfl) (Nat.le_of_ble_eq_true rfl) (Nat.le_of_ble_eq_true rfl) (Nat.le_of_ble_eq_true rfl) (Nat.le_of_ble_eq_true rfl)
end
section
/-! PageMaker: endedPage, page, stands, where, open -/
abbrev mJ (l : Launch) (y : MethodName) (ws : List Cond) (rm : Room) (G : gG) (L : List Nat) (f : Nat → va_E) (sz : Nat) (av : List Value) (mc ms : Nat) (post : Int64 → pz_U → Prop) : Prop := Met l y ws rm (mP G L f sz av) (va_Ql post (pz_B (gD G) cls9 (gT G) (mA L f sz)) (mA L f sz)) mc ms (mA L f sz)
/-- what page answers -/
def pg_v (g : Pg) (n : Nat) : Int64 := match n with
  | 0 => g.1.toInt64
  | 1 => g.2.1.toInt64
  | 2 => g.2.2.1.toInt64
  | 3 => g.2.2.2.2.2.1
  | 4 => g.2.2.2.2.2.2.1.toInt64
  | 5 => g.2.2.2.2.2.2.2
  | 6 => g.2.2.2.1.toInt64
  | _ => g.2.2.2.2.1.toInt64
/-- what open answers -/
def op_v (P : Op) (T : Tt) (n : Nat) : Int64 := match n with
  | 0 => P.1.toInt64
  | 1 => T.1
  | 2 => T.2.1
  | 3 => T.2.2.2 (0 : Int32).toNatClampNeg
  | 4 => T.2.2.2 (1 : Int32).toNatClampNeg
  | 5 => T.2.2.2 (2 : Int32).toNatClampNeg
  | 6 => T.2.2.2 (3 : Int32).toNatClampNeg
  | 7 => P.2.2.1.toInt64
  | 8 => P.2.2.2.1.toInt64
  | _ => T.2.2.1
/-- shareOf, and what stands answers -/
def sh_v (g : Pg) (T : Tt) : Int64 := if 0 < g.2.2.2.2.2.1 then k_prop (T.2.2.2 g.2.2.2.2.2.2.1.toNatClampNeg) g.2.2.2.2.2.1 g.2.2.2.2.2.2.2 else -k_prop T.2.2.1 (if g.2.2.2.2.2.2.2 < -g.2.2.2.2.2.1 then g.2.2.2.2.2.2.2 else -g.2.2.2.2.2.1) g.2.2.2.2.2.2.2
def st_v (g : Pg) (T : Tt) (h : Int32) : Int64 := T.1 + T.2.1 + h.toInt64 + sh_v g T
def st_ok (its : List It) (pgs : List (Fr × Pg)) (k i : Int32) : Prop := ∃ (kk ii : Nat) (pg : Fr × Pg) (c0 c1 : Int32), k = nI kk ∧ i = nI ii ∧ pgs[kk]? = some pg ∧ its[ii]? = some (.inl (c0, c1)) ∧ pg.2.1 ≤ i ∧ i < pg.2.2.1
/-- what where answers: the first page that holds i -/
def wh_v : List (Fr × Pg) → Int32 → Nat → Int32
  | [], _, _ => (-1)
  | pg :: r, i, k => if pg.2.1 ≤ i ∧ i < pg.2.2.1 then nI k else wh_v r i (k + 1)
theorem k_idx {k : Int32} {n : Nat} (h : 0 ≤ k ∧ k < nI n) (hn : n < 2 ^ 31) : ∃ j, j < n ∧ k = nI j := by
  obtain ⟨j, hj, rfl⟩ := nI_of (i32_nlt h.1)
  exact ⟨j, (nI_ltI hj hn).mp h.2, rfl⟩
theorem k_out8 {n : Int32} (h : ¬ (0 ≤ n ∧ n < 8)) : n.toInt < 0 ∨ 7 < n.toInt := by
  rw [Int32.le_iff_toInt_le, Int32.lt_iff_toInt_lt, Int32.toInt_zero, show (8 : Int32).toInt = 8 by decide] at h
  omega
theorem k_out10 {n : Int32} (h : ¬ (0 ≤ n ∧ n < 10)) : n.toInt < 0 ∨ 9 < n.toInt := by
  rw [Int32.le_iff_toInt_le, Int32.lt_iff_toInt_lt, Int32.toInt_zero, show (10 : Int32).toInt = 10 by decide] at h
  omega
theorem rx_grow2 {G : gG} {L : List Nat} {f f1 : Nat → va_E} {pm al ad el ed fr op to sa fo q r : Nat} {xs ys : List Nat} {S : CS} (h : RX G L f pm al ad el ed fr op to sa fo xs ys S) (hq : q ∉ L) (hr : r ∉ L) (hk : ∀ z, z ≠ q → z ≠ r → f1 z = f z) : RX G (L ++ [q] ++ [r]) f1 pm al ad el ed fr op to sa fo xs ys S := by
  obtain ⟨a1, a2, a3, a4, a5, a6, a7, a8, a9, b1, b2, b3, b4, b5, b6, b7, b8, b9⟩ := h
  have hsub : ∀ z, z ∈ L → z ∈ L ++ [q] ++ [r] := fun z hz => List.mem_append_left _ (List.mem_append_left _ hz)
  have kp : ∀ z, z ∈ L → f1 z = f z := fun z hz => hk z (Ne.symm (pz_nef hq hz)) (Ne.symm (pz_nef hr hz))
  exact ⟨hsub _ a1, (kp _ a1).trans a2, lr_keep2 a3 hsub (kp _ (lr_tg a3).1) (fun _ h _ => kp _ h), lr_keep2 a4 hsub (kp _ (lr_tg a4).1) (fun _ h _ => kp _ h), a5, a6, xr_keep a7 hsub (fun z hz _ _ => kp z hz), yr_keep a8 hsub (fun z hz _ => kp z hz), hsub _ a9, (kp _ a9).trans b1, hsub _ b2, (kp _ b2).trans b3, hsub _ b4, (kp _ b4).trans b5, hsub _ b6, (kp _ b6).trans b7, hsub _ b8, (kp _ b8).trans b9⟩
set_option maxHeartbeats 4000000 in
set_option maxRecDepth 100000 in
/-- endedPage(k) -/
theorem c_PM_endedPage (l : Launch) (G : gG) (L : List Nat) (f : Nat → va_E) (sz : Nat) (pm al ad el ed fr op to sa fo : Nat) (xs ys : List Nat) (its : List It) (F9 : Fr) (pgs : List (Fr × Pg)) (F : Fr) (P : Op) (T : Tt) (k y : Nat) (hR : RX G L f pm al ad el ed fr op to sa fo xs ys (its, F9, pgs, F, P, T)) (hpg : pgs.length ≤ 512) (hy9 : ys[k]? = some y) : sQ l y_PM_endedPage w_PM_endedPage ({ frames := 3, cells := 0, slots := 0, locals := 64 }) G L f sz [.ref pm, .int (nI k)] (fun r => r = some y) := by
  refine pz_met (cc := prog_1_method_16_code) (maxL := 2) (ret := (some (.object "PageMaker$EndedPage"))) (by decide) rfl (Nat.le_of_ble_eq_true rfl) ?_
  intro p e s m below meth c ls hx hb hr hml hts hown hlocks hin hsz hK hP hD hS hA hz hl
  have htb : ∀ w ∈ TB, w.before _ s = true := fun w h => hts w (List.mem_cons_of_mem _ h)
  have hl : lv_has ls 2 [(0, .ref pm), (1, .int (nI k))] := hl
  obtain ⟨hp, hfp, h_al, h_el, hne9, hdd, hX, hY, hr9, hfr, ho, hfo, ht, hft, hs9, hsa, hr8, hfof⟩ := id hR
  have hX : XR L f xs its := hX
  have hY : YR L f ys pgs := hY
  have hfr : f fr = frE F9 := hfr
  have hfo : f op = opE to fo P := hfo
  have hft : f to = toE sa T := hft
  have hsa : f sa = saE G T := hsa
  have hfof : f fo = frE F := hfof
  obtain ⟨mo_al, hm_al, hc_al, -⟩ := id h_al
  obtain ⟨mo_el, hm_el, hc_el, -⟩ := id h_el
  have hyl : ys.length = pgs.length := hY.1
  have hk1 : k < ys.length := (List.getElem?_eq_some_iff.mp hy9).1
  obtain ⟨hyL, z9, hzL, hfz, hfy⟩ := hY.2 k y _ hy9 (List.getElem?_eq_getElem (by omega))
  refine lv_iload_n hx hb d_PM_endedPage_0 rfl (lv_at hl 1 rfl) ?_
  refine lv_if_lt (tgt := 15) hx hb d_PM_endedPage_1 (by decide) (fun c0 => absurd c0 (nI_pos (by omega))) (fun _ => ?_)
  refine lv_iload_n hx hb d_PM_endedPage_4 rfl (lv_at hl 1 rfl) ?_
  refine lv_aload_n hx hb d_PM_endedPage_5 rfl (lv_at hl 0 rfl) ?_
  refine pz_get (ci := 4) (C := "PageMaker") (T := T_PM) (N := 4) hx hb htb in_PM hown hK hP hp hfp rfl 1 (by decide) (htb _ tw_161) (fun _ h9 => h9) rfl d_PM_endedPage_6 ?_
  refine vp_callSi (va_Run.run (va_runV (As := []) (rest := [.int (nI k)]) ⟨hx, hb, hml, hown, hts⟩ (al_size l G L f _ el ed ys h_el) (cwV 0 hts (tb_V tw_177 tw_178 tw_179 tw_4 tw_180) rfl rfl rfl (by decide +kernel) ⟨(Nat.le_of_ble_eq_true rfl), (Nat.le_of_ble_eq_true rfl)⟩) (pz_preV (zz_ok _ _ _) hK hP hD hS hA hz (ci := 0) rfl rfl hm_el hc_el) rfl rfl hl.1 rfl (lv_room (Nat.le_of_ble_eq_true rfl)) d_PM_endedPage_9 ⟨(Nat.le_of_ble_eq_true rfl), (Nat.le_of_ble_eq_true rfl)⟩)) (fun r1 hw => ?_)
  have hw : r1 = nI ys.length := hw
  subst r1
  refine lv_icmp_lt (tgt := 25) hx hb d_PM_endedPage_12 (by decide) (fun _ => ?_) (fun c0 => absurd (nI_lt hk1 (by omega)) c0)
  refine lv_aload_n hx hb d_PM_endedPage_25 rfl (lv_at hl 0 rfl) ?_
  refine pz_get (ci := 4) (C := "PageMaker") (T := T_PM) (N := 4) hx hb htb in_PM hown hK hP hp hfp rfl 1 (by decide) (htb _ tw_161) (fun _ h9 => h9) rfl d_PM_endedPage_26 ?_
  refine lv_iload_n hx hb d_PM_endedPage_29 rfl (lv_at hl 1 rfl) ?_
  refine va_csq (va_Run.run (va_runV (As := [.int (nI k)]) (rest := []) ⟨hx, hb, hml, hown, hts⟩ (al_get l G L f _ el ed ys k y h_el hy9) (cwV 1 hts (tb_V tw_390 tw_391 tw_392 tw_4 tw_393) rfl rfl rfl (by decide +kernel) ⟨(Nat.le_of_ble_eq_true rfl), (Nat.le_of_ble_eq_true rfl)⟩) (pz_preV (zz_ok _ _ _) hK hP hD hS hA hz (ci := 0) rfl rfl hm_el hc_el) rfl rfl hl.1 rfl (lv_room (Nat.le_of_ble_eq_true rfl)) d_PM_endedPage_30 ⟨(Nat.le_of_ble_eq_true rfl), (Nat.le_of_ble_eq_true rfl)⟩)) (fun r2 hw => ?_)
  have hw : r2 = some y := hw
  subst hw
  refine W.eq (g2 := F0 m 33 ls [.ref y]) rfl ?_
  refine va_castE hx hb hown (htb _ tw_446) (pz_recv hK hP (ci := 9) rfl hyL hfy) d_PM_endedPage_33 ?_
  exact pz_aretS (r := some y) hx hb hr (Or.inl ⟨_, rfl⟩) hlocks rfl d_PM_endedPage_36
set_option maxHeartbeats 4000000 in
set_option maxRecDepth 100000 in
/-- endedPage throws -/
theorem x_PM_endedPage (l : Launch) (hl9 : l.stackTraces = false) (G : gG) (L : List Nat) (f : Nat → va_E) (sz : Nat) (pm al ad el ed fr op to sa fo : Nat) (xs ys : List Nat) (its : List It) (F9 : Fr) (pgs : List (Fr × Pg)) (F : Fr) (P : Op) (T : Tt) (k : Int32) (hR : RX G L f pm al ad el ed fr op to sa fo xs ys (its, F9, pgs, F, P, T)) (hno : ¬ (0 ≤ k ∧ k < nI ys.length)) : mX l y_PM_endedPage w_PM_endedPage ({ frames := 6, cells := 1, slots := 6, locals := 82 }) G L f sz [.ref pm, .int k] "java/lang/IndexOutOfBoundsException" := by
  refine pz_metX (cc := prog_1_method_16_code) (maxL := 2) (ret := (some (.object "PageMaker$EndedPage"))) (by decide) rfl (Nat.le_of_ble_eq_true rfl) ?_
  intro p e s m below meth c ls hx hb hr hml hts hown hlocks hnt hsz hK hP hD hS hA hz hl
  have htb : ∀ w ∈ TB, w.before _ s = true := fun w h => hts w (List.mem_cons_of_mem _ h)
  have hl : lv_has ls 2 [(0, .ref pm), (1, .int k)] := hl
  obtain ⟨hp, hfp, h_al, h_el, hne9, hdd, hX, hY, hr9, hfr, ho, hfo, ht, hft, hs9, hsa, hr8, hfof⟩ := id hR
  have hX : XR L f xs its := hX
  have hY : YR L f ys pgs := hY
  have hfr : f fr = frE F9 := hfr
  have hfo : f op = opE to fo P := hfo
  have hft : f to = toE sa T := hft
  have hsa : f sa = saE G T := hsa
  have hfof : f fo = frE F := hfof
  obtain ⟨mo_al, hm_al, hc_al, -⟩ := id h_al
  obtain ⟨mo_el, hm_el, hc_el, -⟩ := id h_el
  refine lv_iload_n hx hb d_PM_endedPage_0 rfl (lv_at hl 1 rfl) ?_
  refine lv_if_lt (tgt := 15) hx hb d_PM_endedPage_1 (by decide) (fun c_1 => ?_) (fun c_1 => ?_)
  · exact pz_thr 193 "no such page" 127 131 hx hb hl9 hown (by decide +kernel) htb hz hnt hlocks hK hP hD hS tw_615 tw_26 at_IOB1 at_IOB2 at_IOB3 (by decide +kernel) hml hl.1 d_PM_endedPage_15 d_PM_endedPage_18 d_PM_endedPage_19 d_PM_endedPage_21 d_PM_endedPage_24 (Nat.le_of_ble_eq_true rfl) (Nat.le_of_ble_eq_true rfl) (Nat.le_of_ble_eq_true rfl) (Nat.le_of_ble_eq_true rfl) (Nat.le_of_ble_eq_true rfl) (Nat.le_of_ble_eq_true rfl)
  · refine lv_iload_n hx hb d_PM_endedPage_4 rfl (lv_at hl 1 rfl) ?_
    refine lv_aload_n hx hb d_PM_endedPage_5 rfl (lv_at hl 0 rfl) ?_
    refine pz_get (ci := 4) (C := "PageMaker") (T := T_PM) (N := 4) hx hb htb in_PM hown hK hP hp hfp rfl 1 (by decide) (htb _ tw_161) (fun _ h9 => h9) rfl d_PM_endedPage_6 ?_
    refine vp_callSi (va_Run.run (va_runV (As := []) (rest := [.int k]) ⟨hx, hb, hml, hown, hts⟩ (al_size l G L f _ el ed ys h_el) (cwV 0 hts (tb_V tw_177 tw_178 tw_179 tw_4 tw_180) rfl rfl rfl (by decide +kernel) ⟨(Nat.le_of_ble_eq_true rfl), (Nat.le_of_ble_eq_true rfl)⟩) (pz_preV (zz_ok _ _ _) hK hP hD hS hA hz (ci := 0) rfl rfl hm_el hc_el) rfl rfl hl.1 rfl (lv_room (Nat.le_of_ble_eq_true rfl)) d_PM_endedPage_9 ⟨(Nat.le_of_ble_eq_true rfl), (Nat.le_of_ble_eq_true rfl)⟩)) (fun r2 hw => ?_)
    have hw : r2 = nI ys.length := hw
    subst r2
    refine lv_icmp_lt (tgt := 25) hx hb d_PM_endedPage_12 (by decide) (fun c_3 => ?_) (fun c_3 => ?_)
    · exact absurd ⟨i32_le c_1, c_3⟩ hno
    · exact pz_thr 193 "no such page" 127 131 hx hb hl9 hown (by decide +kernel) htb hz hnt hlocks hK hP hD hS tw_615 tw_26 at_IOB1 at_IOB2 at_IOB3 (by decide +kernel) hml hl.1 d_PM_endedPage_15 d_PM_endedPage_18 d_PM_endedPage_19 d_PM_endedPage_21 d_PM_endedPage_24 (Nat.le_of_ble_eq_true rfl) (Nat.le_of_ble_eq_true rfl) (Nat.le_of_ble_eq_true rfl) (Nat.le_of_ble_eq_true rfl) (Nat.le_of_ble_eq_true rfl) (Nat.le_of_ble_eq_true rfl)
set_option maxHeartbeats 4000000 in
set_option maxRecDepth 100000 in
/-- page(k, n) -/
theorem c_PM_page (l : Launch) (G : gG) (L : List Nat) (f : Nat → va_E) (sz : Nat) (pm al ad el ed fr op to sa fo : Nat) (xs ys : List Nat) (its : List It) (F9 : Fr) (pgs : List (Fr × Pg)) (F : Fr) (P : Op) (T : Tt) (k y n : Nat) (hR : RX G L f pm al ad el ed fr op to sa fo xs ys (its, F9, pgs, F, P, T)) (hpg : pgs.length ≤ 512) (hy9 : ys[k]? = some y) (pg : Fr × Pg) (hp9 : pgs[k]? = some pg) (hn : n < 8) : sJ l y_PM_page w_PM_page ({ frames := 4, cells := 0, slots := 0, locals := 85 }) G L f sz [.ref pm, .int (nI k), .int (nI n)] (fun r => r = pg_v pg.2 n) := by
  refine pz_met (cc := prog_1_method_9_code) (maxL := 4) (ret := (some .long)) (by decide) rfl (Nat.le_of_ble_eq_true rfl) ?_
  intro p e s m below meth c ls hx hb hr hml hts hown hlocks hin hsz hK hP hD hS hA hz hl
  have htb : ∀ w ∈ TB, w.before _ s = true := fun w h => hts w (List.mem_cons_of_mem _ h)
  have hl : lv_has ls 4 [(0, .ref pm), (1, .int (nI k)), (2, .int (nI n))] := hl
  obtain ⟨hp, hfp, h_al, h_el, hne9, hdd, hX, hY, hr9, hfr, ho, hfo, ht, hft, hs9, hsa, hr8, hfof⟩ := id hR
  have hX : XR L f xs its := hX
  have hY : YR L f ys pgs := hY
  have hfr : f fr = frE F9 := hfr
  have hfo : f op = opE to fo P := hfo
  have hft : f to = toE sa T := hft
  have hsa : f sa = saE G T := hsa
  have hfof : f fo = frE F := hfof
  obtain ⟨mo_al, hm_al, hc_al, -⟩ := id h_al
  obtain ⟨mo_el, hm_el, hc_el, -⟩ := id h_el
  obtain ⟨hyL, z9, hzL, hfz, hfy⟩ := hY.2 k y _ hy9 hp9
  refine lv_aload_n hx hb d_PM_page_0 rfl (lv_at hl 0 rfl) ?_
  refine lv_iload_n hx hb d_PM_page_1 rfl (lv_at hl 1 rfl) ?_
  refine va_csq (va_Run.run (va_runV (As := [.int (nI k)]) (rest := []) ⟨hx, hb, hml, hown, hts⟩ (c_PM_endedPage l G L f _ pm al ad el ed fr op to sa fo xs ys its F9 pgs F P T k y hR hpg hy9) (cwV 1 hts (tb_V tw_611 tw_613 tp_12 tw_1 tw_614) rfl rfl rfl (by decide +kernel) ⟨(Nat.le_of_ble_eq_true rfl), (Nat.le_of_ble_eq_true rfl)⟩) (pz_preV (zz_ok _ _ _) hK hP hD hS hA hz (ci := 4) rfl rfl hp hfp) rfl rfl hl.1 rfl (lv_room (Nat.le_of_ble_eq_true rfl)) d_PM_page_2 ⟨(Nat.le_of_ble_eq_true rfl), (Nat.le_of_ble_eq_true rfl)⟩)) (fun r1 hw => ?_)
  have hw : r1 = some y := hw
  subst hw
  refine W.eq (g2 := F0 m 5 ls [.ref y]) rfl ?_
  refine lv_astore_n (lv' := [(3, .ref y), (0, .ref pm), (1, .int (nI k)), (2, .int (nI n))]) hx hb d_PM_page_5 rfl hl (by decide) rfl (fun ls hl => ?_)
  refine lv_iload_n hx hb d_PM_page_6 rfl (lv_at hl 3 rfl) ?_
  rcases (show n = 0 ∨ n = 1 ∨ n = 2 ∨ n = 3 ∨ n = 4 ∨ n = 5 ∨ n = 6 ∨ n = 7 by omega) with rfl | rfl | rfl | rfl | rfl | rfl | rfl | rfl
  · refine lv_tableIn (x := 0) (tgt := 52) hx hb d_PM_page_7 (by decide) (by decide) rfl (by decide) ?_
    refine lv_aload_n hx hb d_PM_page_52 rfl (lv_at hl 0 rfl) ?_
    refine pz_get (ci := 9) (C := "PageMaker$EndedPage") (T := T_EP) (N := 9) hx hb htb in_EP hown hK hP hyL hfy rfl 1 (by decide) (htb _ tw_491) (fun _ h9 => h9) rfl d_PM_page_53 ?_
    refine lv_i2l hx hb d_PM_page_56 rfl ?_
    exact pz_lretS hx hb hr hlocks rfl d_PM_page_57
  · refine lv_tableIn (x := 1) (tgt := 58) hx hb d_PM_page_7 (by decide) (by decide) rfl (by decide) ?_
    refine lv_aload_n hx hb d_PM_page_58 rfl (lv_at hl 0 rfl) ?_
    refine pz_get (ci := 9) (C := "PageMaker$EndedPage") (T := T_EP) (N := 9) hx hb htb in_EP hown hK hP hyL hfy rfl 2 (by decide) (htb _ tw_493) (fun _ h9 => h9) rfl d_PM_page_59 ?_
    refine lv_i2l hx hb d_PM_page_62 rfl ?_
    exact pz_lretS hx hb hr hlocks rfl d_PM_page_63
  · refine lv_tableIn (x := 2) (tgt := 64) hx hb d_PM_page_7 (by decide) (by decide) rfl (by decide) ?_
    refine lv_aload_n hx hb d_PM_page_64 rfl (lv_at hl 0 rfl) ?_
    refine pz_get (ci := 9) (C := "PageMaker$EndedPage") (T := T_EP) (N := 9) hx hb htb in_EP hown hK hP hyL hfy rfl 3 (by decide) (htb _ tw_495) (fun _ h9 => h9) rfl d_PM_page_65 ?_
    refine lv_i2l hx hb d_PM_page_68 rfl ?_
    exact pz_lretS hx hb hr hlocks rfl d_PM_page_69
  · refine lv_tableIn (x := 3) (tgt := 70) hx hb d_PM_page_7 (by decide) (by decide) rfl (by decide) ?_
    refine lv_aload_n hx hb d_PM_page_70 rfl (lv_at hl 0 rfl) ?_
    refine pz_get (ci := 9) (C := "PageMaker$EndedPage") (T := T_EP) (N := 9) hx hb htb in_EP hown hK hP hyL hfy rfl 6 (by decide) (htb _ tw_501) (fun _ h9 => h9) rfl d_PM_page_71 ?_
    exact pz_lretS hx hb hr hlocks rfl d_PM_page_74
  · refine lv_tableIn (x := 4) (tgt := 75) hx hb d_PM_page_7 (by decide) (by decide) rfl (by decide) ?_
    refine lv_aload_n hx hb d_PM_page_75 rfl (lv_at hl 0 rfl) ?_
    refine pz_get (ci := 9) (C := "PageMaker$EndedPage") (T := T_EP) (N := 9) hx hb htb in_EP hown hK hP hyL hfy rfl 7 (by decide) (htb _ tw_503) (fun _ h9 => h9) rfl d_PM_page_76 ?_
    refine lv_i2l hx hb d_PM_page_79 rfl ?_
    exact pz_lretS hx hb hr hlocks rfl d_PM_page_80
  · refine lv_tableIn (x := 5) (tgt := 81) hx hb d_PM_page_7 (by decide) (by decide) rfl (by decide) ?_
    refine lv_aload_n hx hb d_PM_page_81 rfl (lv_at hl 0 rfl) ?_
    refine pz_get (ci := 9) (C := "PageMaker$EndedPage") (T := T_EP) (N := 9) hx hb htb in_EP hown hK hP hyL hfy rfl 8 (by decide) (htb _ tw_505) (fun _ h9 => h9) rfl d_PM_page_82 ?_
    exact pz_lretS hx hb hr hlocks rfl d_PM_page_85
  · refine lv_tableIn (x := 6) (tgt := 86) hx hb d_PM_page_7 (by decide) (by decide) rfl (by decide) ?_
    refine lv_aload_n hx hb d_PM_page_86 rfl (lv_at hl 0 rfl) ?_
    refine pz_get (ci := 9) (C := "PageMaker$EndedPage") (T := T_EP) (N := 9) hx hb htb in_EP hown hK hP hyL hfy rfl 4 (by decide) (htb _ tw_497) (fun _ h9 => h9) rfl d_PM_page_87 ?_
    refine lv_i2l hx hb d_PM_page_90 rfl ?_
    exact pz_lretS hx hb hr hlocks rfl d_PM_page_91
  · refine lv_tableIn (x := 7) (tgt := 92) hx hb d_PM_page_7 (by decide) (by decide) rfl (by decide) ?_
    refine lv_aload_n hx hb d_PM_page_92 rfl (lv_at hl 0 rfl) ?_
    refine pz_get (ci := 9) (C := "PageMaker$EndedPage") (T := T_EP) (N := 9) hx hb htb in_EP hown hK hP hyL hfy rfl 5 (by decide) (htb _ tw_499) (fun _ h9 => h9) rfl d_PM_page_93 ?_
    refine lv_i2l hx hb d_PM_page_96 rfl ?_
    exact pz_lretS hx hb hr hlocks rfl d_PM_page_97
set_option maxHeartbeats 4000000 in
set_option maxRecDepth 100000 in
/-- page throws -/
theorem x_PM_page (l : Launch) (hl9 : l.stackTraces = false) (G : gG) (L : List Nat) (f : Nat → va_E) (sz : Nat) (pm al ad el ed fr op to sa fo : Nat) (xs ys : List Nat) (its : List It) (F9 : Fr) (pgs : List (Fr × Pg)) (F : Fr) (P : Op) (T : Tt) (k n : Int32) (hR : RX G L f pm al ad el ed fr op to sa fo xs ys (its, F9, pgs, F, P, T)) (hpg : pgs.length ≤ 512) (hno : ¬ ((0 ≤ k ∧ k < nI pgs.length) ∧ 0 ≤ n ∧ n < 8)) : mX l y_PM_page w_PM_page ({ frames := 7, cells := 1, slots := 6, locals := 103 }) G L f sz [.ref pm, .int k, .int n] "java/lang/IndexOutOfBoundsException" := by
  refine pz_metX (cc := prog_1_method_9_code) (maxL := 4) (ret := (some .long)) (by decide) rfl (Nat.le_of_ble_eq_true rfl) ?_
  intro p e s m below meth c ls hx hb hr hml hts hown hlocks hnt hsz hK hP hD hS hA hz hl
  have htb : ∀ w ∈ TB, w.before _ s = true := fun w h => hts w (List.mem_cons_of_mem _ h)
  have hl : lv_has ls 4 [(0, .ref pm), (1, .int k), (2, .int n)] := hl
  obtain ⟨hp, hfp, h_al, h_el, hne9, hdd, hX, hY, hr9, hfr, ho, hfo, ht, hft, hs9, hsa, hr8, hfof⟩ := id hR
  have hX : XR L f xs its := hX
  have hY : YR L f ys pgs := hY
  have hfr : f fr = frE F9 := hfr
  have hfo : f op = opE to fo P := hfo
  have hft : f to = toE sa T := hft
  have hsa : f sa = saE G T := hsa
  have hfof : f fo = frE F := hfof
  obtain ⟨mo_al, hm_al, hc_al, -⟩ := id h_al
  obtain ⟨mo_el, hm_el, hc_el, -⟩ := id h_el
  have hyl : ys.length = pgs.length := hY.1
  by_cases hk : 0 ≤ k ∧ k < nI pgs.length
  · obtain ⟨kk, hkk, rfl⟩ := k_idx hk (by omega)
    obtain ⟨y, hy9⟩ : ∃ y, ys[kk]? = some y := ⟨_, List.getElem?_eq_getElem (by omega)⟩
    refine lv_aload_n hx hb d_PM_page_0 rfl (lv_at hl 0 rfl) ?_
    refine lv_iload_n hx hb d_PM_page_1 rfl (lv_at hl 1 rfl) ?_
    refine va_csq (va_Run.run (va_runV (As := [.int (nI kk)]) (rest := []) ⟨hx, hb, hml, hown, hts⟩ (c_PM_endedPage l G L f _ pm al ad el ed fr op to sa fo xs ys its F9 pgs F P T kk y hR hpg hy9) (cwV 1 hts (tb_V tw_611 tw_613 tp_12 tw_1 tw_614) rfl rfl rfl (by decide +kernel) ⟨(Nat.le_of_ble_eq_true rfl), (Nat.le_of_ble_eq_true rfl)⟩) (pz_preV (zz_ok _ _ _) hK hP hD hS hA hz (ci := 4) rfl rfl hp hfp) rfl rfl hl.1 rfl (lv_room (Nat.le_of_ble_eq_true rfl)) d_PM_page_2 ⟨(Nat.le_of_ble_eq_true rfl), (Nat.le_of_ble_eq_true rfl)⟩)) (fun r1 hw => ?_)
    have hw : r1 = some y := hw
    subst hw
    refine W.eq (g2 := F0 m 5 ls [.ref y]) rfl ?_
    refine lv_astore_n (lv' := [(3, .ref y), (0, .ref pm), (1, .int (nI kk)), (2, .int n)]) hx hb d_PM_page_5 rfl hl (by decide) rfl (fun ls hl => ?_)
    refine lv_iload_n hx hb d_PM_page_6 rfl (lv_at hl 3 rfl) ?_
    refine lv_tableOut (tgt := 98) hx hb d_PM_page_7 (k_out8 (fun h => hno ⟨hk, h⟩)) (by decide) ?_
    exact pz_thr 129 "of a page 0 to 7 can be asked" 127 131 hx hb hl9 hown (by decide +kernel) htb hz hnt hlocks hK hP hD hS tw_615 tw_26 at_IOB1 at_IOB2 at_IOB3 (by decide +kernel) hml hl.1 d_PM_page_98 d_PM_page_101 d_PM_page_102 d_PM_page_104 d_PM_page_107 (Nat.le_of_ble_eq_true rfl) (Nat.le_of_ble_eq_true rfl) (Nat.le_of_ble_eq_true rfl) (Nat.le_of_ble_eq_true rfl) (Nat.le_of_ble_eq_true rfl) (Nat.le_of_ble_eq_true rfl)
  · refine lv_aload_n hx hb d_PM_page_0 rfl (lv_at hl 0 rfl) ?_
    refine lv_iload_n hx hb d_PM_page_1 rfl (lv_at hl 1 rfl) ?_
    refine pz_cx (aa := #[]) (vx_runV (As := [.int k]) (rest := []) ⟨hx, hb, hml, hown, hts⟩ (x_PM_endedPage l hl9 G L f _ pm al ad el ed fr op to sa fo xs ys its F9 pgs F P T k hR (by rw [hyl]; exact hk)) (cwV 1 hts (tb_V tw_611 tw_613 tp_12 tw_1 tw_614) rfl rfl rfl (by decide +kernel) ⟨(Nat.le_of_ble_eq_true rfl), (Nat.le_of_ble_eq_true rfl)⟩) (pz_preV (zz_ok _ _ _) hK hP hD hS hA hz (ci := 4) rfl rfl hp hfp) rfl rfl hl.1 rfl (lv_room (Nat.le_of_ble_eq_true rfl)) d_PM_page_2 ⟨(Nat.le_of_ble_eq_true rfl), (Nat.le_of_ble_eq_true rfl)⟩) hP hD hS hA (fun ce q9 H locs hP hD hS h1 h2 h3 => ?_)
    exact pz_out hnt hlocks hK hP hD hS h1 h2 h3 (Nat.le_of_ble_eq_true rfl) (Nat.le_of_ble_eq_true rfl)
set_option maxHeartbeats 4000000 in
set_option maxRecDepth 100000 in
/-- open(n) -/
theorem c_PM_open (l : Launch) (G : gG) (L : List Nat) (f : Nat → va_E) (sz : Nat) (pm al ad el ed fr op to sa fo : Nat) (xs ys : List Nat) (its : List It) (F9 : Fr) (pgs : List (Fr × Pg)) (F : Fr) (P : Op) (T : Tt) (n : Nat) (hR : RX G L f pm al ad el ed fr op to sa fo xs ys (its, F9, pgs, F, P, T)) (hn : n < 10) : sJ l y_PM_open w_PM_open ({ frames := 0, cells := 0, slots := 0, locals := 0 }) G L f sz [.ref pm, .int (nI n)] (fun r => r = op_v P T n) := by
  refine pz_met (cc := prog_1_method_12_code) (maxL := 2) (ret := (some .long)) (by decide) rfl (Nat.le_of_ble_eq_true rfl) ?_
  intro p e s m below meth c ls hx hb hr hml hts hown hlocks hin hsz hK hP hD hS hA hz hl
  have htb : ∀ w ∈ TB, w.before _ s = true := fun w h => hts w (List.mem_cons_of_mem _ h)
  have hl : lv_has ls 2 [(0, .ref pm), (1, .int (nI n))] := hl
  obtain ⟨hp, hfp, h_al, h_el, hne9, hdd, hX, hY, hr9, hfr, ho, hfo, ht, hft, hs9, hsa, hr8, hfof⟩ := id hR
  have hX : XR L f xs its := hX
  have hY : YR L f ys pgs := hY
  have hfr : f fr = frE F9 := hfr
  have hfo : f op = opE to fo P := hfo
  have hft : f to = toE sa T := hft
  have hsa : f sa = saE G T := hsa
  have hfof : f fo = frE F := hfof
  obtain ⟨mo_al, hm_al, hc_al, -⟩ := id h_al
  refine lv_iload_n hx hb d_PM_open_0 rfl (lv_at hl 1 rfl) ?_
  rcases (show n = 0 ∨ n = 1 ∨ n = 2 ∨ n = 3 ∨ n = 4 ∨ n = 5 ∨ n = 6 ∨ n = 7 ∨ n = 8 ∨ n = 9 by omega) with rfl | rfl | rfl | rfl | rfl | rfl | rfl | rfl | rfl | rfl
  · have hl : lv_has ls 2 [(0, .ref pm), (1, .int 0)] := hl
    refine lv_tableIn (x := 0) (tgt := 56) hx hb d_PM_open_1 (by decide) (by decide) rfl (by decide) ?_
    refine lv_aload_n hx hb d_PM_open_56 rfl (lv_at hl 0 rfl) ?_
    refine pz_get (ci := 4) (C := "PageMaker") (T := T_PM) (N := 4) hx hb htb in_PM hown hK hP hp hfp rfl 3 (by decide) (htb _ tw_163) (fun _ h9 => h9) rfl d_PM_open_57 ?_
    refine pz_get (ci := 2) (C := "PageMaker$OpenPage") (T := T_OP) (N := 8) hx hb htb in_OP hown hK hP ho hfo rfl 2 (by decide) (htb _ tw_130) (fun _ h9 => h9) rfl d_PM_open_60 ?_
    refine lv_i2l hx hb d_PM_open_63 rfl ?_
    exact pz_lretS hx hb hr hlocks rfl d_PM_open_64
  · have hl : lv_has ls 2 [(0, .ref pm), (1, .int 1)] := hl
    refine lv_tableIn (x := 1) (tgt := 65) hx hb d_PM_open_1 (by decide) (by decide) rfl (by decide) ?_
    refine lv_aload_n hx hb d_PM_open_65 rfl (lv_at hl 0 rfl) ?_
    refine pz_get (ci := 4) (C := "PageMaker") (T := T_PM) (N := 4) hx hb htb in_PM hown hK hP hp hfp rfl 3 (by decide) (htb _ tw_163) (fun _ h9 => h9) rfl d_PM_open_66 ?_
    refine pz_get (ci := 2) (C := "PageMaker$OpenPage") (T := T_OP) (N := 8) hx hb htb in_OP hown hK hP ho hfo rfl 0 (by decide) (htb _ tw_124) (fun _ h9 => h9) rfl d_PM_open_69 ?_
    refine pz_get (ci := 3) (C := "PageMaker$Totals") (T := T_TO) (N := 4) hx hb htb in_TO hown hK hP ht hft rfl 1 (by decide) (htb _ tw_104) (fun _ h9 => h9) rfl d_PM_open_72 ?_
    exact pz_lretS hx hb hr hlocks rfl d_PM_open_75
  · have hl : lv_has ls 2 [(0, .ref pm), (1, .int 2)] := hl
    refine lv_tableIn (x := 2) (tgt := 76) hx hb d_PM_open_1 (by decide) (by decide) rfl (by decide) ?_
    refine lv_aload_n hx hb d_PM_open_76 rfl (lv_at hl 0 rfl) ?_
    refine pz_get (ci := 4) (C := "PageMaker") (T := T_PM) (N := 4) hx hb htb in_PM hown hK hP hp hfp rfl 3 (by decide) (htb _ tw_163) (fun _ h9 => h9) rfl d_PM_open_77 ?_
    refine pz_get (ci := 2) (C := "PageMaker$OpenPage") (T := T_OP) (N := 8) hx hb htb in_OP hown hK hP ho hfo rfl 0 (by decide) (htb _ tw_124) (fun _ h9 => h9) rfl d_PM_open_80 ?_
    refine pz_get (ci := 3) (C := "PageMaker$Totals") (T := T_TO) (N := 4) hx hb htb in_TO hown hK hP ht hft rfl 2 (by decide) (htb _ tw_107) (fun _ h9 => h9) rfl d_PM_open_83 ?_
    exact pz_lretS hx hb hr hlocks rfl d_PM_open_86
  · have hl : lv_has ls 2 [(0, .ref pm), (1, .int 3)] := hl
    refine lv_tableIn (x := 3) (tgt := 87) hx hb d_PM_open_1 (by decide) (by decide) rfl (by decide) ?_
    refine lv_aload_n hx hb d_PM_open_87 rfl (lv_at hl 0 rfl) ?_
    refine pz_get (ci := 4) (C := "PageMaker") (T := T_PM) (N := 4) hx hb htb in_PM hown hK hP hp hfp rfl 3 (by decide) (htb _ tw_163) (fun _ h9 => h9) rfl d_PM_open_88 ?_
    refine pz_get (ci := 2) (C := "PageMaker$OpenPage") (T := T_OP) (N := 8) hx hb htb in_OP hown hK hP ho hfo rfl 0 (by decide) (htb _ tw_124) (fun _ h9 => h9) rfl d_PM_open_91 ?_
    refine pz_get (ci := 3) (C := "PageMaker$Totals") (T := T_TO) (N := 4) hx hb htb in_TO hown hK hP ht hft rfl 0 (by decide) (htb _ tw_99) (fun _ h9 => h9) rfl d_PM_open_94 ?_
    refine lv_iload_n hx hb d_PM_open_97 rfl (lv_at hl 1 rfl) ?_
    refine lv_iconst (v := 3) hx hb d_PM_open_98 (by decide) ?_
    refine lv_isub hx hb d_PM_open_99 ?_
    refine lv_topi (fun x1 ex1 => ?_)
    have ex1 : x1 = 0 := ex1.trans (rfl)
    subst ex1
    have hin2 : vp_in 0 4 := vp_in_nI (n := 0) (N := 4) (by decide) (by decide)
    refine pz_lald hx hb hK hP 1 hs9 hsa rfl hin2 d_PM_open_100 ?_
    refine lv_topl (fun x3 (ex3 : x3 = T.2.2.2 0) => ?_)
    subst ex3
    exact pz_lretS hx hb hr hlocks rfl d_PM_open_101
  · have hl : lv_has ls 2 [(0, .ref pm), (1, .int 4)] := hl
    refine lv_tableIn (x := 4) (tgt := 87) hx hb d_PM_open_1 (by decide) (by decide) rfl (by decide) ?_
    refine lv_aload_n hx hb d_PM_open_87 rfl (lv_at hl 0 rfl) ?_
    refine pz_get (ci := 4) (C := "PageMaker") (T := T_PM) (N := 4) hx hb htb in_PM hown hK hP hp hfp rfl 3 (by decide) (htb _ tw_163) (fun _ h9 => h9) rfl d_PM_open_88 ?_
    refine pz_get (ci := 2) (C := "PageMaker$OpenPage") (T := T_OP) (N := 8) hx hb htb in_OP hown hK hP ho hfo rfl 0 (by decide) (htb _ tw_124) (fun _ h9 => h9) rfl d_PM_open_91 ?_
    refine pz_get (ci := 3) (C := "PageMaker$Totals") (T := T_TO) (N := 4) hx hb htb in_TO hown hK hP ht hft rfl 0 (by decide) (htb _ tw_99) (fun _ h9 => h9) rfl d_PM_open_94 ?_
    refine lv_iload_n hx hb d_PM_open_97 rfl (lv_at hl 1 rfl) ?_
    refine lv_iconst (v := 3) hx hb d_PM_open_98 (by decide) ?_
    refine lv_isub hx hb d_PM_open_99 ?_
    refine lv_topi (fun x4 ex4 => ?_)
    have ex4 : x4 = 1 := ex4.trans (rfl)
    subst ex4
    have hin5 : vp_in 1 4 := vp_in_nI (n := 1) (N := 4) (by decide) (by decide)
    refine pz_lald hx hb hK hP 1 hs9 hsa rfl hin5 d_PM_open_100 ?_
    refine lv_topl (fun x6 (ex6 : x6 = T.2.2.2 1) => ?_)
    subst ex6
    exact pz_lretS hx hb hr hlocks rfl d_PM_open_101
  · have hl : lv_has ls 2 [(0, .ref pm), (1, .int 5)] := hl
    refine lv_tableIn (x := 5) (tgt := 87) hx hb d_PM_open_1 (by decide) (by decide) rfl (by decide) ?_
    refine lv_aload_n hx hb d_PM_open_87 rfl (lv_at hl 0 rfl) ?_
    refine pz_get (ci := 4) (C := "PageMaker") (T := T_PM) (N := 4) hx hb htb in_PM hown hK hP hp hfp rfl 3 (by decide) (htb _ tw_163) (fun _ h9 => h9) rfl d_PM_open_88 ?_
    refine pz_get (ci := 2) (C := "PageMaker$OpenPage") (T := T_OP) (N := 8) hx hb htb in_OP hown hK hP ho hfo rfl 0 (by decide) (htb _ tw_124) (fun _ h9 => h9) rfl d_PM_open_91 ?_
    refine pz_get (ci := 3) (C := "PageMaker$Totals") (T := T_TO) (N := 4) hx hb htb in_TO hown hK hP ht hft rfl 0 (by decide) (htb _ tw_99) (fun _ h9 => h9) rfl d_PM_open_94 ?_
    refine lv_iload_n hx hb d_PM_open_97 rfl (lv_at hl 1 rfl) ?_
    refine lv_iconst (v := 3) hx hb d_PM_open_98 (by decide) ?_
    refine lv_isub hx hb d_PM_open_99 ?_
    refine lv_topi (fun x7 ex7 => ?_)
    have ex7 : x7 = 2 := ex7.trans (rfl)
    subst ex7
    have hin8 : vp_in 2 4 := vp_in_nI (n := 2) (N := 4) (by decide) (by decide)
    refine pz_lald hx hb hK hP 1 hs9 hsa rfl hin8 d_PM_open_100 ?_
    refine lv_topl (fun x9 (ex9 : x9 = T.2.2.2 2) => ?_)
    subst ex9
    exact pz_lretS hx hb hr hlocks rfl d_PM_open_101
  · have hl : lv_has ls 2 [(0, .ref pm), (1, .int 6)] := hl
    refine lv_tableIn (x := 6) (tgt := 87) hx hb d_PM_open_1 (by decide) (by decide) rfl (by decide) ?_
    refine lv_aload_n hx hb d_PM_open_87 rfl (lv_at hl 0 rfl) ?_
    refine pz_get (ci := 4) (C := "PageMaker") (T := T_PM) (N := 4) hx hb htb in_PM hown hK hP hp hfp rfl 3 (by decide) (htb _ tw_163) (fun _ h9 => h9) rfl d_PM_open_88 ?_
    refine pz_get (ci := 2) (C := "PageMaker$OpenPage") (T := T_OP) (N := 8) hx hb htb in_OP hown hK hP ho hfo rfl 0 (by decide) (htb _ tw_124) (fun _ h9 => h9) rfl d_PM_open_91 ?_
    refine pz_get (ci := 3) (C := "PageMaker$Totals") (T := T_TO) (N := 4) hx hb htb in_TO hown hK hP ht hft rfl 0 (by decide) (htb _ tw_99) (fun _ h9 => h9) rfl d_PM_open_94 ?_
    refine lv_iload_n hx hb d_PM_open_97 rfl (lv_at hl 1 rfl) ?_
    refine lv_iconst (v := 3) hx hb d_PM_open_98 (by decide) ?_
    refine lv_isub hx hb d_PM_open_99 ?_
    refine lv_topi (fun x10 ex10 => ?_)
    have ex10 : x10 = 3 := ex10.trans (rfl)
    subst ex10
    have hin11 : vp_in 3 4 := vp_in_nI (n := 3) (N := 4) (by decide) (by decide)
    refine pz_lald hx hb hK hP 1 hs9 hsa rfl hin11 d_PM_open_100 ?_
    refine lv_topl (fun x12 (ex12 : x12 = T.2.2.2 3) => ?_)
    subst ex12
    exact pz_lretS hx hb hr hlocks rfl d_PM_open_101
  · have hl : lv_has ls 2 [(0, .ref pm), (1, .int 7)] := hl
    refine lv_tableIn (x := 7) (tgt := 102) hx hb d_PM_open_1 (by decide) (by decide) rfl (by decide) ?_
    refine lv_aload_n hx hb d_PM_open_102 rfl (lv_at hl 0 rfl) ?_
    refine pz_get (ci := 4) (C := "PageMaker") (T := T_PM) (N := 4) hx hb htb in_PM hown hK hP hp hfp rfl 3 (by decide) (htb _ tw_163) (fun _ h9 => h9) rfl d_PM_open_103 ?_
    refine pz_get (ci := 2) (C := "PageMaker$OpenPage") (T := T_OP) (N := 8) hx hb htb in_OP hown hK hP ho hfo rfl 4 (by decide) (htb _ tw_135) (fun _ h9 => h9) rfl d_PM_open_106 ?_
    refine lv_i2l hx hb d_PM_open_109 rfl ?_
    exact pz_lretS hx hb hr hlocks rfl d_PM_open_110
  · have hl : lv_has ls 2 [(0, .ref pm), (1, .int 8)] := hl
    refine lv_tableIn (x := 8) (tgt := 111) hx hb d_PM_open_1 (by decide) (by decide) rfl (by decide) ?_
    refine lv_aload_n hx hb d_PM_open_111 rfl (lv_at hl 0 rfl) ?_
    refine pz_get (ci := 4) (C := "PageMaker") (T := T_PM) (N := 4) hx hb htb in_PM hown hK hP hp hfp rfl 3 (by decide) (htb _ tw_163) (fun _ h9 => h9) rfl d_PM_open_112 ?_
    refine pz_get (ci := 2) (C := "PageMaker$OpenPage") (T := T_OP) (N := 8) hx hb htb in_OP hown hK hP ho hfo rfl 5 (by decide) (htb _ tw_138) (fun _ h9 => h9) rfl d_PM_open_115 ?_
    refine lv_i2l hx hb d_PM_open_118 rfl ?_
    exact pz_lretS hx hb hr hlocks rfl d_PM_open_119
  · have hl : lv_has ls 2 [(0, .ref pm), (1, .int 9)] := hl
    refine lv_tableIn (x := 9) (tgt := 120) hx hb d_PM_open_1 (by decide) (by decide) rfl (by decide) ?_
    refine lv_aload_n hx hb d_PM_open_120 rfl (lv_at hl 0 rfl) ?_
    refine pz_get (ci := 4) (C := "PageMaker") (T := T_PM) (N := 4) hx hb htb in_PM hown hK hP hp hfp rfl 3 (by decide) (htb _ tw_163) (fun _ h9 => h9) rfl d_PM_open_121 ?_
    refine pz_get (ci := 2) (C := "PageMaker$OpenPage") (T := T_OP) (N := 8) hx hb htb in_OP hown hK hP ho hfo rfl 0 (by decide) (htb _ tw_124) (fun _ h9 => h9) rfl d_PM_open_124 ?_
    refine pz_get (ci := 3) (C := "PageMaker$Totals") (T := T_TO) (N := 4) hx hb htb in_TO hown hK hP ht hft rfl 3 (by decide) (htb _ tw_111) (fun _ h9 => h9) rfl d_PM_open_127 ?_
    exact pz_lretS hx hb hr hlocks rfl d_PM_open_130
set_option maxHeartbeats 4000000 in
set_option maxRecDepth 100000 in
/-- open throws -/
theorem x_PM_open (l : Launch) (hl9 : l.stackTraces = false) (G : gG) (L : List Nat) (f : Nat → va_E) (sz : Nat) (pm : Nat) (n : Int32) (hno : ¬ (0 ≤ n ∧ n < 10)) : mX l y_PM_open w_PM_open ({ frames := 6, cells := 1, slots := 6, locals := 82 }) G L f sz [.ref pm, .int n] "java/lang/IndexOutOfBoundsException" := by
  refine pz_metX (cc := prog_1_method_12_code) (maxL := 2) (ret := (some .long)) (by decide) rfl (Nat.le_of_ble_eq_true rfl) ?_
  intro p e s m below meth c ls hx hb hr hml hts hown hlocks hnt hsz hK hP hD hS hA hz hl
  have htb : ∀ w ∈ TB, w.before _ s = true := fun w h => hts w (List.mem_cons_of_mem _ h)
  have hl : lv_has ls 2 [(0, .ref pm), (1, .int n)] := hl
  refine lv_iload_n hx hb d_PM_open_0 rfl (lv_at hl 1 rfl) ?_
  refine lv_tableOut (tgt := 131) hx hb d_PM_open_1 (k_out10 hno) (by decide) ?_
  exact pz_thr 184 "of the open page 0 to 9 can be asked" 127 131 hx hb hl9 hown (by decide +kernel) htb hz hnt hlocks hK hP hD hS tw_615 tw_26 at_IOB1 at_IOB2 at_IOB3 (by decide +kernel) hml hl.1 d_PM_open_131 d_PM_open_134 d_PM_open_135 d_PM_open_137 d_PM_open_140 (Nat.le_of_ble_eq_true rfl) (Nat.le_of_ble_eq_true rfl) (Nat.le_of_ble_eq_true rfl) (Nat.le_of_ble_eq_true rfl) (Nat.le_of_ble_eq_true rfl) (Nat.le_of_ble_eq_true rfl)
set_option maxHeartbeats 4000000 in
set_option maxRecDepth 100000 in
/-- stands(k, i) -/
theorem c_PM_stands (l : Launch) (G : gG) (L : List Nat) (f : Nat → va_E) (sz : Nat) (pm al ad el ed fr op to sa fo : Nat) (xs ys : List Nat) (its : List It) (F9 : Fr) (pgs : List (Fr × Pg)) (F : Fr) (P : Op) (T : Tt) (k y a i : Nat) (b0 b1 c0 c1 : Int32) (hR : RX G L f pm al ad el ed fr op to sa fo xs ys (its, F9, pgs, F, P, T)) (hpg : pgs.length ≤ 512) (hn5 : its.length ≤ 512) (hy9 : ys[k]? = some y) (pg : Fr × Pg) (hp9 : pgs[k]? = some pg) (hpa : pg.2.1 = nI a) (hbx : its[a]? = some (.inl (b0, b1))) (hai : a ≤ i) (hib : nI i < pg.2.2.1) (hi9 : its[i]? = some (.inl (c0, c1))) (h6 : vp_in pg.2.2.2.2.2.2.2.1 4) : mJ l y_PM_stands w_PM_stands ({ frames := 4, cells := 2, slots := 8, locals := 90 }) G L f sz [.ref pm, .int (nI k), .int (nI i)] 2 8 (fun r u => r = st_v pg.2 (t_list its pg.1 a i) c0 ∧ RX G u.1 u.2 pm al ad el ed fr op to sa fo xs ys (its, F9, pgs, F, P, T)) := by
  refine pz_met (cc := prog_1_method_10_code) (maxL := 6) (ret := (some .long)) (by decide) rfl (Nat.le_of_ble_eq_true rfl) ?_
  intro p e s m below meth c ls hx hb hr hml hts hown hlocks hin hsz hK hP hD hS hA hz hl
  have htb : ∀ w ∈ TB, w.before _ s = true := fun w h => hts w (List.mem_cons_of_mem _ h)
  have hl : lv_has ls 6 [(0, .ref pm), (1, .int (nI k)), (2, .int (nI i))] := hl
  obtain ⟨hp, hfp, h_al, h_el, hne9, hdd, hX, hY, hr9, hfr, ho, hfo, ht, hft, hs9, hsa, hr8, hfof⟩ := id hR
  have hX : XR L f xs its := hX
  have hY : YR L f ys pgs := hY
  have hfr : f fr = frE F9 := hfr
  have hfo : f op = opE to fo P := hfo
  have hft : f to = toE sa T := hft
  have hsa : f sa = saE G T := hsa
  have hfof : f fo = frE F := hfof
  obtain ⟨mo_al, hm_al, hc_al, -⟩ := id h_al
  obtain ⟨mo_el, hm_el, hc_el, -⟩ := id h_el
  have hxl : xs.length = its.length := hX.1
  have hil : i < its.length := (List.getElem?_eq_some_iff.mp hi9).1
  obtain ⟨hyL, z9, hzL, hfz, hfy⟩ := hY.2 k y _ hy9 hp9
  obtain ⟨x, hx9⟩ : ∃ x, xs[i]? = some x := ⟨_, List.getElem?_eq_getElem (by omega)⟩
  obtain ⟨hxL, hfx, -⟩ := hX.2 i x _ hx9 hi9
  have hfy1 : f y = .inr (9, [.ref z9, .int (nI a), .int pg.2.2.1, .int pg.2.2.2.1, .int pg.2.2.2.2.1, .int pg.2.2.2.2.2.1, .long pg.2.2.2.2.2.2.1, .int pg.2.2.2.2.2.2.2.1, .long pg.2.2.2.2.2.2.2.2]) := by rw [hfy, pgE, hpa]
  refine lv_aload_n hx hb d_PM_stands_0 rfl (lv_at hl 0 rfl) ?_
  refine lv_iload_n hx hb d_PM_stands_1 rfl (lv_at hl 1 rfl) ?_
  refine va_csq (va_Run.run (va_runV (As := [.int (nI k)]) (rest := []) ⟨hx, hb, hml, hown, hts⟩ (c_PM_endedPage l G L f _ pm al ad el ed fr op to sa fo xs ys its F9 pgs F P T k y hR hpg hy9) (cwV 1 hts (tb_V tw_611 tw_613 tp_12 tw_1 tw_614) rfl rfl rfl (by decide +kernel) ⟨(Nat.le_of_ble_eq_true rfl), (Nat.le_of_ble_eq_true rfl)⟩) (pz_preV (zz_ok _ _ _) hK hP hD hS hA hz (ci := 4) rfl rfl hp hfp) rfl rfl hl.1 rfl (lv_room (Nat.le_of_ble_eq_true rfl)) d_PM_stands_2 ⟨(Nat.le_of_ble_eq_true rfl), (Nat.le_of_ble_eq_true rfl)⟩)) (fun r1 hw => ?_)
  have hw : r1 = some y := hw
  subst hw
  refine W.eq (g2 := F0 m 5 ls [.ref y]) rfl ?_
  refine lv_astore_n (lv' := [(3, .ref y), (0, .ref pm), (1, .int (nI k)), (2, .int (nI i))]) hx hb d_PM_stands_5 rfl hl (by decide) rfl (fun ls hl => ?_)
  refine lv_aload_n hx hb d_PM_stands_6 rfl (lv_at hl 1 rfl) ?_
  refine lv_iload_n hx hb d_PM_stands_7 rfl (lv_at hl 3 rfl) ?_
  refine vp_callSi (va_Run.run (va_runV (As := [.int (nI i)]) (rest := []) ⟨hx, hb, hml, hown, hts⟩ (c_PM_isItem l G L f _ pm al el fr op ad xs (nI i) hp hfp h_al) (cwV 1 hts (tb_V tw_386 tw_388 tp_7 tw_1 tw_389) rfl rfl rfl (by decide +kernel) ⟨(Nat.le_of_ble_eq_true rfl), (Nat.le_of_ble_eq_true rfl)⟩) (pz_preV (zz_ok _ _ _) hK hP hD hS hA hz (ci := 4) rfl rfl hp hfp) rfl rfl hl.1 rfl (lv_room (Nat.le_of_ble_eq_true rfl)) d_PM_stands_8 ⟨(Nat.le_of_ble_eq_true rfl), (Nat.le_of_ble_eq_true rfl)⟩)) (fun r2 hw => ?_)
  have hw : r2 = 1 := k_by (show k_b (0 ≤ nI i ∧ nI i < nI xs.length) r2 from hw) ⟨nI_pos' (by omega), nI_lt (by omega) (by omega)⟩
  subst hw
  refine lv_if_eq (tgt := 88) hx hb d_PM_stands_11 (by decide) (fun c0 => absurd c0 (by decide)) (fun _ => ?_)
  refine lv_aload_n hx hb d_PM_stands_14 rfl (lv_at hl 0 rfl) ?_
  refine lv_iload_n hx hb d_PM_stands_15 rfl (lv_at hl 3 rfl) ?_
  refine vp_callSi (va_Run.run (va_runV (As := [.int (nI i)]) (rest := []) ⟨hx, hb, hml, hown, hts⟩ (c_EP_holds l G L f _ y z9 (nI a) pg.2.2.1 pg.2.2.2.1 pg.2.2.2.2.1 pg.2.2.2.2.2.1 pg.2.2.2.2.2.2.2.1 (nI i) pg.2.2.2.2.2.2.1 pg.2.2.2.2.2.2.2.2 hyL hfy1) (cwV 1 hts (tb_V tw_639 tw_640 tw_641 tw_22 tw_642) rfl rfl rfl (by decide +kernel) ⟨(Nat.le_of_ble_eq_true rfl), (Nat.le_of_ble_eq_true rfl)⟩) (pz_preV (zz_ok _ _ _) hK hP hD hS hA hz (ci := 9) rfl rfl hyL hfy1) rfl rfl hl.1 rfl (lv_room (Nat.le_of_ble_eq_true rfl)) d_PM_stands_16 ⟨(Nat.le_of_ble_eq_true rfl), (Nat.le_of_ble_eq_true rfl)⟩)) (fun r3 hw => ?_)
  have hw : r3 = 1 := k_by (show k_b (nI a ≤ nI i ∧ nI i < pg.2.2.1) r3 from hw) ⟨nI_le hai (by omega), hib⟩
  subst hw
  refine lv_if_eq (tgt := 88) hx hb d_PM_stands_19 (by decide) (fun c0 => absurd c0 (by decide)) (fun _ => ?_)
  refine lv_aload_n hx hb d_PM_stands_22 rfl (lv_at hl 1 rfl) ?_
  refine pz_get (ci := 4) (C := "PageMaker") (T := T_PM) (N := 4) hx hb htb in_PM hown hK hP hp hfp rfl 0 (by decide) (htb _ tw_160) (fun _ h9 => h9) rfl d_PM_stands_23 ?_
  refine lv_iload_n hx hb d_PM_stands_26 rfl (lv_at hl 3 rfl) ?_
  refine va_csq (va_Run.run (va_runV (As := [.int (nI i)]) (rest := []) ⟨hx, hb, hml, hown, hts⟩ (al_get l G L f _ al ad xs i x h_al hx9) (cwV 1 hts (tb_V tw_390 tw_391 tw_392 tw_4 tw_393) rfl rfl rfl (by decide +kernel) ⟨(Nat.le_of_ble_eq_true rfl), (Nat.le_of_ble_eq_true rfl)⟩) (pz_preV (zz_ok _ _ _) hK hP hD hS hA hz (ci := 0) rfl rfl hm_al hc_al) rfl rfl hl.1 rfl (lv_room (Nat.le_of_ble_eq_true rfl)) d_PM_stands_27 ⟨(Nat.le_of_ble_eq_true rfl), (Nat.le_of_ble_eq_true rfl)⟩)) (fun r4 hw => ?_)
  have hw : r4 = some x := hw
  subst hw
  refine W.eq (g2 := F0 m 30 ls [.ref x]) rfl ?_
  refine lv_astore (lv' := [(5, .ref x), (3, .ref y), (0, .ref pm), (1, .int (nI k)), (2, .int (nI i))]) hx hb d_PM_stands_30 hl (by decide) rfl (fun ls hl => ?_)
  refine lv_aload hx hb d_PM_stands_32 (lv_at hl 0 rfl) ?_
  refine va_instE hx hb hown (htb _ tw_298) (pz_recv hK hP (ci := 5) rfl hxL hfx) d_PM_stands_34 ?_
  refine lv_if_eq (tgt := 88) hx hb d_PM_stands_37 (by decide) (fun c0 => absurd c0 (by decide)) (fun _ => ?_)
  refine lv_aload hx hb d_PM_stands_40 (lv_at hl 0 rfl) ?_
  refine va_castE hx hb hown (htb _ tw_298) (pz_recv hK hP (ci := 5) rfl hxL hfx) d_PM_stands_42 ?_
  refine lv_astore (lv' := [(4, .ref x), (5, .ref x), (3, .ref y), (0, .ref pm), (1, .int (nI k)), (2, .int (nI i))]) hx hb d_PM_stands_45 hl (by decide) rfl (fun ls hl => ?_)
  refine lv_aload_n hx hb d_PM_stands_47 rfl (lv_at hl 3 rfl) ?_
  refine lv_aload_n hx hb d_PM_stands_48 rfl (lv_at hl 2 rfl) ?_
  refine pz_get (ci := 9) (C := "PageMaker$EndedPage") (T := T_EP) (N := 9) hx hb htb in_EP hown hK hP hyL hfy1 rfl 0 (by decide) (htb _ tw_489) (fun _ h9 => h9) rfl d_PM_stands_49 ?_
  refine lv_aload_n hx hb d_PM_stands_52 rfl (lv_at hl 2 rfl) ?_
  refine pz_get (ci := 9) (C := "PageMaker$EndedPage") (T := T_EP) (N := 9) hx hb htb in_EP hown hK hP hyL hfy1 rfl 1 (by decide) (htb _ tw_491) (fun _ h9 => h9) rfl d_PM_stands_53 ?_
  refine lv_iload_n hx hb d_PM_stands_56 rfl (lv_at hl 5 rfl) ?_
  refine pz_cr (va_runV (As := [.ref z9, .int (nI a), .int (nI i)]) (rest := []) ⟨hx, hb, hml, hown, hts⟩ (c_PM_totalsOf l G L f _ pm al ad el fr op z9 a i xs its pg.1 b0 b1 hp hfp h_al hX hzL hfz hai (by omega) hn5 hbx) (cwV 3 hts (tb_V tw_448 tw_450 tp_10 tw_1 tw_451) rfl rfl rfl (by decide +kernel) ⟨(Nat.le_of_ble_eq_true rfl), (Nat.le_of_ble_eq_true rfl)⟩) (pz_preV (zz_ok _ _ _) hK hP hD hS hA hz (ci := 4) rfl rfl hp hfp) rfl rfl hl.1 rfl (lv_room (Nat.le_of_ble_eq_true rfl)) d_PM_stands_57 ⟨(Nat.le_of_ble_eq_true rfl), (Nat.le_of_ble_eq_true rfl)⟩) hP hD hS hA (fun t2 L2 f2 H locs hw hP hD hS => ?_)
  obtain ⟨hnt2, sa2, hnsa2, hts2, eL2, hft2, hfs2, hk2⟩ := hw
  have eL2 : L2 = L ++ [t2] ++ [sa2] := eL2
  subst L2
  have hft2 : f2 t2 = toE sa2 (t_list its pg.1 a i) := hft2
  have hfs2 : f2 sa2 = saE G (t_list its pg.1 a i) := hfs2
  have hk2 : ∀ z, z ≠ t2 → z ≠ sa2 → f2 z = f z := hk2
  have hsub2 : ∀ z, z ∈ L → z ∈ (L ++ [t2] ++ [sa2]) := fun z hz => List.mem_append_left _ (List.mem_append_left _ hz)
  have hold2 : ∀ z, z ∈ L → f2 z = f z := fun z hz => hk2 z (Ne.symm (pz_nef hnt2 hz)) (Ne.symm (pz_nef hnsa2 hz))
  have hfy2 : f2 y = .inr (9, [.ref z9, .int (nI a), .int pg.2.2.1, .int pg.2.2.2.1, .int pg.2.2.2.2.1, .int pg.2.2.2.2.2.1, .long pg.2.2.2.2.2.2.1, .int pg.2.2.2.2.2.2.2.1, .long pg.2.2.2.2.2.2.2.2]) := (hold2 _ hyL).trans hfy1
  have hfx2 : f2 x = itE (.inl (c0, c1)) := (hold2 _ hxL).trans hfx
  refine lv_astore (lv' := [(5, .ref t2), (4, .ref x), (3, .ref y), (0, .ref pm), (1, .int (nI k)), (2, .int (nI i))]) hx hb d_PM_stands_60 hl (by decide) rfl (fun ls hl => ?_)
  refine lv_aload hx hb d_PM_stands_62 (lv_at hl 0 rfl) ?_
  refine pz_get (ci := 3) (C := "PageMaker$Totals") (T := T_TO) (N := 4) hx hb htb in_TO hown hK hP (List.mem_append_left _ (l_in_new _ _)) hft2 rfl 1 (by decide) (htb _ tw_104) (fun _ h9 => h9) rfl d_PM_stands_64 ?_
  refine lv_aload hx hb d_PM_stands_67 (lv_at hl 0 rfl) ?_
  refine pz_get (ci := 3) (C := "PageMaker$Totals") (T := T_TO) (N := 4) hx hb htb in_TO hown hK hP (List.mem_append_left _ (l_in_new _ _)) hft2 rfl 2 (by decide) (htb _ tw_107) (fun _ h9 => h9) rfl d_PM_stands_69 ?_
  refine lv_ladd hx hb d_PM_stands_72 ?_
  refine lv_aload hx hb d_PM_stands_73 (lv_at hl 1 rfl) ?_
  refine pz_get (ci := 5) (C := "PageMaker$Box") (T := T_BX) (N := 2) hx hb htb in_BX hown hK hP (hsub2 _ hxL) hfx2 rfl 0 (by decide) (htb _ tw_309) (fun _ h9 => h9) rfl d_PM_stands_75 ?_
  refine lv_i2l hx hb d_PM_stands_78 rfl ?_
  refine lv_ladd hx hb d_PM_stands_79 ?_
  refine lv_aload_n hx hb d_PM_stands_80 rfl (lv_at hl 2 rfl) ?_
  refine lv_aload hx hb d_PM_stands_81 (lv_at hl 0 rfl) ?_
  refine vp_callSl (va_Run.run (va_runV (As := [.ref t2]) (rest := [.long (((t_list its pg.1 a i).1 + (t_list its pg.1 a i).2.1) + c0.toInt64)]) ⟨hx, hb, hml, hown, hts⟩ (c_EP_shareOf l G (L ++ [t2] ++ [sa2]) f2 _ y z9 t2 sa2 (nI a) pg.2.2.1 pg.2.2.2.1 pg.2.2.2.2.1 pg.2.2.2.2.2.1 pg.2.2.2.2.2.2.2.1 pg.2.2.2.2.2.2.1 pg.2.2.2.2.2.2.2.2 (t_list its pg.1 a i).1 (t_list its pg.1 a i).2.1 (t_list its pg.1 a i).2.2.1 (t_list its pg.1 a i).2.2.2 (hsub2 _ hyL) hfy2 (List.mem_append_left _ (l_in_new _ _)) hft2 (l_in_new _ _) hfs2 h6) (cwV 1 hts (tb_V tw_643 tw_644 tw_645 tw_22 tw_646) rfl rfl rfl (by decide +kernel) ⟨(Nat.le_of_ble_eq_true rfl), (Nat.le_of_ble_eq_true rfl)⟩) (pz_preV (zz_ok _ _ _) hK hP hD hS hA hz (ci := 9) rfl rfl (hsub2 _ hyL) hfy2) rfl rfl hl.1 rfl (lv_room (Nat.le_of_ble_eq_true rfl)) d_PM_stands_83 ⟨(Nat.le_of_ble_eq_true rfl), (Nat.le_of_ble_eq_true rfl)⟩)) (fun r5 hw => ?_)
  have hw : r5 = (sh_v pg.2 (t_list its pg.1 a i)) := hw
  subst r5
  refine lv_ladd hx hb d_PM_stands_86 ?_
  have hR2 : RX G (L ++ [t2] ++ [sa2]) f2 pm al ad el ed fr op to sa fo xs ys (its, F9, pgs, F, P, T) := rx_grow2 hR hnt2 hnsa2 hk2
  exact pz_lret hx hb hr hlocks hK hP hD hS (Nat.le_of_ble_eq_true rfl) (Nat.le_of_ble_eq_true rfl) ⟨rfl, hR2⟩ d_PM_stands_87
set_option maxHeartbeats 4000000 in
set_option maxRecDepth 100000 in
/-- stands throws -/
theorem x_PM_stands (l : Launch) (hl9 : l.stackTraces = false) (G : gG) (L : List Nat) (f : Nat → va_E) (sz : Nat) (pm al ad el ed fr op to sa fo : Nat) (xs ys : List Nat) (its : List It) (F9 : Fr) (pgs : List (Fr × Pg)) (F : Fr) (P : Op) (T : Tt) (k i : Int32) (hR : RX G L f pm al ad el ed fr op to sa fo xs ys (its, F9, pgs, F, P, T)) (hpg : pgs.length ≤ 512) (hn5 : its.length ≤ 512) (hno : ¬ st_ok its pgs k i) : mX l y_PM_stands w_PM_stands ({ frames := 7, cells := 1, slots := 6, locals := 103 }) G L f sz [.ref pm, .int k, .int i] "java/lang/IndexOutOfBoundsException" := by
  refine pz_metX (cc := prog_1_method_10_code) (maxL := 6) (ret := (some .long)) (by decide) rfl (Nat.le_of_ble_eq_true rfl) ?_
  intro p e s m below meth c ls hx hb hr hml hts hown hlocks hnt hsz hK hP hD hS hA hz hl
  have htb : ∀ w ∈ TB, w.before _ s = true := fun w h => hts w (List.mem_cons_of_mem _ h)
  have hl : lv_has ls 6 [(0, .ref pm), (1, .int k), (2, .int i)] := hl
  obtain ⟨hp, hfp, h_al, h_el, hne9, hdd, hX, hY, hr9, hfr, ho, hfo, ht, hft, hs9, hsa, hr8, hfof⟩ := id hR
  have hX : XR L f xs its := hX
  have hY : YR L f ys pgs := hY
  have hfr : f fr = frE F9 := hfr
  have hfo : f op = opE to fo P := hfo
  have hft : f to = toE sa T := hft
  have hsa : f sa = saE G T := hsa
  have hfof : f fo = frE F := hfof
  obtain ⟨mo_al, hm_al, hc_al, -⟩ := id h_al
  obtain ⟨mo_el, hm_el, hc_el, -⟩ := id h_el
  have hyl : ys.length = pgs.length := hY.1
  have hxl : xs.length = its.length := hX.1
  by_cases hk : 0 ≤ k ∧ k < nI pgs.length
  · obtain ⟨kk, hkk, rfl⟩ := k_idx hk (by omega)
    obtain ⟨y, hy9⟩ : ∃ y, ys[kk]? = some y := ⟨_, List.getElem?_eq_getElem (by omega)⟩
    obtain ⟨pg, hp9⟩ : ∃ pg, pgs[kk]? = some pg := ⟨_, List.getElem?_eq_getElem hkk⟩
    obtain ⟨hyL, z9, hzL, hfz, hfy⟩ := hY.2 kk y _ hy9 hp9
    refine lv_aload_n hx hb d_PM_stands_0 rfl (lv_at hl 0 rfl) ?_
    refine lv_iload_n hx hb d_PM_stands_1 rfl (lv_at hl 1 rfl) ?_
    refine va_csq (va_Run.run (va_runV (As := [.int (nI kk)]) (rest := []) ⟨hx, hb, hml, hown, hts⟩ (c_PM_endedPage l G L f _ pm al ad el ed fr op to sa fo xs ys its F9 pgs F P T kk y hR hpg hy9) (cwV 1 hts (tb_V tw_611 tw_613 tp_12 tw_1 tw_614) rfl rfl rfl (by decide +kernel) ⟨(Nat.le_of_ble_eq_true rfl), (Nat.le_of_ble_eq_true rfl)⟩) (pz_preV (zz_ok _ _ _) hK hP hD hS hA hz (ci := 4) rfl rfl hp hfp) rfl rfl hl.1 rfl (lv_room (Nat.le_of_ble_eq_true rfl)) d_PM_stands_2 ⟨(Nat.le_of_ble_eq_true rfl), (Nat.le_of_ble_eq_true rfl)⟩)) (fun r1 hw => ?_)
    have hw : r1 = some y := hw
    subst hw
    refine W.eq (g2 := F0 m 5 ls [.ref y]) rfl ?_
    refine lv_astore_n (lv' := [(3, .ref y), (0, .ref pm), (1, .int (nI kk)), (2, .int i)]) hx hb d_PM_stands_5 rfl hl (by decide) rfl (fun ls hl => ?_)
    refine lv_aload_n hx hb d_PM_stands_6 rfl (lv_at hl 1 rfl) ?_
    refine lv_iload_n hx hb d_PM_stands_7 rfl (lv_at hl 3 rfl) ?_
    refine vp_callSi (va_Run.run (va_runV (As := [.int i]) (rest := []) ⟨hx, hb, hml, hown, hts⟩ (c_PM_isItem l G L f _ pm al el fr op ad xs i hp hfp h_al) (cwV 1 hts (tb_V tw_386 tw_388 tp_7 tw_1 tw_389) rfl rfl rfl (by decide +kernel) ⟨(Nat.le_of_ble_eq_true rfl), (Nat.le_of_ble_eq_true rfl)⟩) (pz_preV (zz_ok _ _ _) hK hP hD hS hA hz (ci := 4) rfl rfl hp hfp) rfl rfl hl.1 rfl (lv_room (Nat.le_of_ble_eq_true rfl)) d_PM_stands_8 ⟨(Nat.le_of_ble_eq_true rfl), (Nat.le_of_ble_eq_true rfl)⟩)) (fun r2 hw => ?_)
    rcases (show k_b (0 ≤ i ∧ i < nI xs.length) r2 from hw) with ⟨rfl, hq3⟩ | ⟨rfl, hq3⟩
    · refine lv_if_eq (tgt := 88) hx hb d_PM_stands_11 (by decide) (fun c0 => absurd c0 (by decide)) (fun _ => ?_)
      refine lv_aload_n hx hb d_PM_stands_14 rfl (lv_at hl 0 rfl) ?_
      refine lv_iload_n hx hb d_PM_stands_15 rfl (lv_at hl 3 rfl) ?_
      refine vp_callSi (va_Run.run (va_runV (As := [.int i]) (rest := []) ⟨hx, hb, hml, hown, hts⟩ (c_EP_holds l G L f _ y z9 pg.2.1 pg.2.2.1 pg.2.2.2.1 pg.2.2.2.2.1 pg.2.2.2.2.2.1 pg.2.2.2.2.2.2.2.1 i pg.2.2.2.2.2.2.1 pg.2.2.2.2.2.2.2.2 hyL hfy) (cwV 1 hts (tb_V tw_639 tw_640 tw_641 tw_22 tw_642) rfl rfl rfl (by decide +kernel) ⟨(Nat.le_of_ble_eq_true rfl), (Nat.le_of_ble_eq_true rfl)⟩) (pz_preV (zz_ok _ _ _) hK hP hD hS hA hz (ci := 9) rfl rfl hyL hfy) rfl rfl hl.1 rfl (lv_room (Nat.le_of_ble_eq_true rfl)) d_PM_stands_16 ⟨(Nat.le_of_ble_eq_true rfl), (Nat.le_of_ble_eq_true rfl)⟩)) (fun r4 hw => ?_)
      rcases (show k_b (pg.2.1 ≤ i ∧ i < pg.2.2.1) r4 from hw) with ⟨rfl, hq5⟩ | ⟨rfl, hq5⟩
      · refine lv_if_eq (tgt := 88) hx hb d_PM_stands_19 (by decide) (fun c0 => absurd c0 (by decide)) (fun _ => ?_)
        refine lv_aload_n hx hb d_PM_stands_22 rfl (lv_at hl 1 rfl) ?_
        refine pz_get (ci := 4) (C := "PageMaker") (T := T_PM) (N := 4) hx hb htb in_PM hown hK hP hp hfp rfl 0 (by decide) (htb _ tw_160) (fun _ h9 => h9) rfl d_PM_stands_23 ?_
        refine lv_iload_n hx hb d_PM_stands_26 rfl (lv_at hl 3 rfl) ?_
        obtain ⟨ii, hii, rfl⟩ := k_idx hq3 (by omega)
        obtain ⟨x, hx9⟩ : ∃ x, xs[ii]? = some x := ⟨_, List.getElem?_eq_getElem hii⟩
        obtain ⟨it, hi9⟩ : ∃ it, its[ii]? = some it := ⟨_, List.getElem?_eq_getElem (by omega)⟩
        obtain ⟨hxL, hfx, hok⟩ := hX.2 ii x it hx9 hi9
        refine va_csq (va_Run.run (va_runV (As := [.int (nI ii)]) (rest := []) ⟨hx, hb, hml, hown, hts⟩ (al_get l G L f _ al ad xs ii x h_al hx9) (cwV 1 hts (tb_V tw_390 tw_391 tw_392 tw_4 tw_393) rfl rfl rfl (by decide +kernel) ⟨(Nat.le_of_ble_eq_true rfl), (Nat.le_of_ble_eq_true rfl)⟩) (pz_preV (zz_ok _ _ _) hK hP hD hS hA hz (ci := 0) rfl rfl hm_al hc_al) rfl rfl hl.1 rfl (lv_room (Nat.le_of_ble_eq_true rfl)) d_PM_stands_27 ⟨(Nat.le_of_ble_eq_true rfl), (Nat.le_of_ble_eq_true rfl)⟩)) (fun r6 hw => ?_)
        have hw : r6 = some x := hw
        subst hw
        refine W.eq (g2 := F0 m 30 ls [.ref x]) rfl ?_
        refine lv_astore (lv' := [(5, .ref x), (3, .ref y), (0, .ref pm), (1, .int (nI kk)), (2, .int (nI ii))]) hx hb d_PM_stands_30 hl (by decide) rfl (fun ls hl => ?_)
        refine lv_aload hx hb d_PM_stands_32 (lv_at hl 0 rfl) ?_
        rcases it with ⟨ia, ib⟩ | ⟨ia, ib, io, id9⟩ | ia | ia
        · exact absurd ⟨kk, ii, pg, _, _, rfl, rfl, hp9, hi9, hq5⟩ hno
        · refine va_instNo (C := "PageMaker$Glue") hx hb hown (htb _ tw_298) (hz.2.1 ("PageMaker$Glue", "PageMaker$Box") (by decide +kernel)) (pz_recv hK hP (ci := 6) rfl hxL hfx) d_PM_stands_34 ?_
          refine lv_if_eq (tgt := 88) hx hb d_PM_stands_37 (by decide) (fun _ => ?_) (fun c0 => absurd c0 (by decide))
          exact pz_thr 164 "no box of this page" 127 131 hx hb hl9 hown (by decide +kernel) htb hz hnt hlocks hK hP hD hS tw_615 tw_26 at_IOB1 at_IOB2 at_IOB3 (by decide +kernel) hml hl.1 d_PM_stands_88 d_PM_stands_91 d_PM_stands_92 d_PM_stands_94 d_PM_stands_97 (Nat.le_of_ble_eq_true rfl) (Nat.le_of_ble_eq_true rfl) (Nat.le_of_ble_eq_true rfl) (Nat.le_of_ble_eq_true rfl) (Nat.le_of_ble_eq_true rfl) (Nat.le_of_ble_eq_true rfl)
        · refine va_instNo (C := "PageMaker$Kern") hx hb hown (htb _ tw_298) (hz.2.1 ("PageMaker$Kern", "PageMaker$Box") (by decide +kernel)) (pz_recv hK hP (ci := 7) rfl hxL hfx) d_PM_stands_34 ?_
          refine lv_if_eq (tgt := 88) hx hb d_PM_stands_37 (by decide) (fun _ => ?_) (fun c0 => absurd c0 (by decide))
          exact pz_thr 164 "no box of this page" 127 131 hx hb hl9 hown (by decide +kernel) htb hz hnt hlocks hK hP hD hS tw_615 tw_26 at_IOB1 at_IOB2 at_IOB3 (by decide +kernel) hml hl.1 d_PM_stands_88 d_PM_stands_91 d_PM_stands_92 d_PM_stands_94 d_PM_stands_97 (Nat.le_of_ble_eq_true rfl) (Nat.le_of_ble_eq_true rfl) (Nat.le_of_ble_eq_true rfl) (Nat.le_of_ble_eq_true rfl) (Nat.le_of_ble_eq_true rfl) (Nat.le_of_ble_eq_true rfl)
        · refine va_instNo (C := "PageMaker$Penalty") hx hb hown (htb _ tw_298) (hz.2.1 ("PageMaker$Penalty", "PageMaker$Box") (by decide +kernel)) (pz_recv hK hP (ci := 8) rfl hxL hfx) d_PM_stands_34 ?_
          refine lv_if_eq (tgt := 88) hx hb d_PM_stands_37 (by decide) (fun _ => ?_) (fun c0 => absurd c0 (by decide))
          exact pz_thr 164 "no box of this page" 127 131 hx hb hl9 hown (by decide +kernel) htb hz hnt hlocks hK hP hD hS tw_615 tw_26 at_IOB1 at_IOB2 at_IOB3 (by decide +kernel) hml hl.1 d_PM_stands_88 d_PM_stands_91 d_PM_stands_92 d_PM_stands_94 d_PM_stands_97 (Nat.le_of_ble_eq_true rfl) (Nat.le_of_ble_eq_true rfl) (Nat.le_of_ble_eq_true rfl) (Nat.le_of_ble_eq_true rfl) (Nat.le_of_ble_eq_true rfl) (Nat.le_of_ble_eq_true rfl)
      · refine lv_if_eq (tgt := 88) hx hb d_PM_stands_19 (by decide) (fun _ => ?_) (fun c0 => absurd c0 (by decide))
        exact pz_thr 164 "no box of this page" 127 131 hx hb hl9 hown (by decide +kernel) htb hz hnt hlocks hK hP hD hS tw_615 tw_26 at_IOB1 at_IOB2 at_IOB3 (by decide +kernel) hml hl.1 d_PM_stands_88 d_PM_stands_91 d_PM_stands_92 d_PM_stands_94 d_PM_stands_97 (Nat.le_of_ble_eq_true rfl) (Nat.le_of_ble_eq_true rfl) (Nat.le_of_ble_eq_true rfl) (Nat.le_of_ble_eq_true rfl) (Nat.le_of_ble_eq_true rfl) (Nat.le_of_ble_eq_true rfl)
    · refine lv_if_eq (tgt := 88) hx hb d_PM_stands_11 (by decide) (fun _ => ?_) (fun c0 => absurd c0 (by decide))
      exact pz_thr 164 "no box of this page" 127 131 hx hb hl9 hown (by decide +kernel) htb hz hnt hlocks hK hP hD hS tw_615 tw_26 at_IOB1 at_IOB2 at_IOB3 (by decide +kernel) hml hl.1 d_PM_stands_88 d_PM_stands_91 d_PM_stands_92 d_PM_stands_94 d_PM_stands_97 (Nat.le_of_ble_eq_true rfl) (Nat.le_of_ble_eq_true rfl) (Nat.le_of_ble_eq_true rfl) (Nat.le_of_ble_eq_true rfl) (Nat.le_of_ble_eq_true rfl) (Nat.le_of_ble_eq_true rfl)
  · refine lv_aload_n hx hb d_PM_stands_0 rfl (lv_at hl 0 rfl) ?_
    refine lv_iload_n hx hb d_PM_stands_1 rfl (lv_at hl 1 rfl) ?_
    refine pz_cx (aa := #[]) (vx_runV (As := [.int k]) (rest := []) ⟨hx, hb, hml, hown, hts⟩ (x_PM_endedPage l hl9 G L f _ pm al ad el ed fr op to sa fo xs ys its F9 pgs F P T k hR (by rw [hyl]; exact hk)) (cwV 1 hts (tb_V tw_611 tw_613 tp_12 tw_1 tw_614) rfl rfl rfl (by decide +kernel) ⟨(Nat.le_of_ble_eq_true rfl), (Nat.le_of_ble_eq_true rfl)⟩) (pz_preV (zz_ok _ _ _) hK hP hD hS hA hz (ci := 4) rfl rfl hp hfp) rfl rfl hl.1 rfl (lv_room (Nat.le_of_ble_eq_true rfl)) d_PM_stands_2 ⟨(Nat.le_of_ble_eq_true rfl), (Nat.le_of_ble_eq_true rfl)⟩) hP hD hS hA (fun ce q9 H locs hP hD hS h1 h2 h3 => ?_)
    exact pz_out hnt hlocks hK hP hD hS h1 h2 h3 (Nat.le_of_ble_eq_true rfl) (Nat.le_of_ble_eq_true rfl)
set_option maxHeartbeats 4000000 in
set_option maxRecDepth 100000 in
/-- where: its loop at the page k -/
theorem lp_where (l : Launch) (G : gG) (L : List Nat) (f : Nat → va_E) (sz : Nat) (pm al ad el ed fr op to sa fo : Nat) (xs ys : List Nat) (its : List It) (F9 : Fr) (pgs : List (Fr × Pg)) (F : Fr) (P : Op) (T : Tt) (i : Int32) {p : Program} {e : Env} {s : State} {m : MethodId} {below : List Frame} {meth : Method} {c : Code} (hx : p.tables.exec = Jvm.exec) (hb : c.code = prog_1_method_11_code) (hr : meth.sig.returnType = some .int) (hml : c.maxLocals = 3) (hts : ∀ w ∈ w_PM_where, w.before ([.ref pm, .int i] : List Value).toArray s = true) (hown : s.vm.findClass "PageMaker" = some m.cls) (hlocks : meth.locks = false) (hK : va_K (gD G) cls9 (gT G) s) (hP : va_P (gD G) cls9 ([] ++ va_pl L f) s.heap) (hD : va_D (mA L f sz) ([] ++ va_pl L f)) (hS : va_S (mA L f sz) s.heap s.heap []) (hA : ∀ q, s.heap.size ≤ q → mA L f sz q) (hz : gZ G (mA L f sz) s s.heap) (hR : RX G L f pm al ad el ed fr op to sa fo xs ys (its, F9, pgs, F, P, T)) (hpg : pgs.length ≤ 512) :
    ∀ (mm k : Nat) (ls : Array Slot), k + mm = pgs.length → wh_v (pgs.drop k) i k = wh_v pgs i 0 → lv_has ls 3 [(0, .ref pm), (1, .int i), (2, .int (nI k))] →
      W p l e ({ frames := 3, cells := 0, slots := 0, locals := 64 } : Room) s m ([.ref pm, .int i] : List Value).toArray below meth c s.heap [] 0 0 (MQ below (vp_Si (fun r => r = wh_v pgs i 0)) ([.ref pm, .int i] : List Value).toArray s 0 0 (fun _ => False)) (F0 m 20 ls []) := by
  have htb : ∀ w ∈ TB, w.before _ s = true := fun w h => hts w (List.mem_cons_of_mem _ h)
  obtain ⟨hp, hfp, h_al, h_el, hne9, hdd, hX, hY, hr9, hfr, ho, hfo, ht, hft, hs9, hsa, hr8, hfof⟩ := id hR
  have hX : XR L f xs its := hX
  have hY : YR L f ys pgs := hY
  have hfr : f fr = frE F9 := hfr
  have hfo : f op = opE to fo P := hfo
  have hft : f to = toE sa T := hft
  have hsa : f sa = saE G T := hsa
  have hfof : f fo = frE F := hfof
  obtain ⟨mo_al, hm_al, hc_al, -⟩ := id h_al
  obtain ⟨mo_el, hm_el, hc_el, -⟩ := id h_el
  have hyl : ys.length = pgs.length := hY.1
  intro mm
  induction mm with
  | zero =>
    intro k ls hk hwh hl
    refine lv_iload_n hx hb d_PM_where_20 rfl (lv_at hl 2 rfl) ?_
    refine lv_aload_n hx hb d_PM_where_21 rfl (lv_at hl 0 rfl) ?_
    refine pz_get (ci := 4) (C := "PageMaker") (T := T_PM) (N := 4) hx hb htb in_PM hown hK hP hp hfp rfl 1 (by decide) (htb _ tw_161) (fun _ h9 => h9) rfl d_PM_where_22 ?_
    refine vp_callSi (va_Run.run (va_runV (As := []) (rest := [.int (nI k)]) ⟨hx, hb, hml, hown, hts⟩ (al_size l G L f _ el ed ys h_el) (cwV 0 hts (tb_V tw_177 tw_178 tw_179 tw_4 tw_180) rfl rfl rfl (by decide +kernel) ⟨(Nat.le_of_ble_eq_true rfl), (Nat.le_of_ble_eq_true rfl)⟩) (pz_preV (zz_ok _ _ _) hK hP hD hS hA hz (ci := 0) rfl rfl hm_el hc_el) rfl rfl hl.1 rfl (lv_room (Nat.le_of_ble_eq_true rfl)) d_PM_where_25 ⟨(Nat.le_of_ble_eq_true rfl), (Nat.le_of_ble_eq_true rfl)⟩)) (fun r1 hw => ?_)
    have hw : r1 = nI ys.length := hw
    subst r1
    refine lv_icmp_ge (tgt := 57) hx hb d_PM_where_28 (by decide) (fun _ => ?_) (fun c0 => absurd (nI_le (by omega) (by omega)) c0)
    refine lv_iconst (v := (-1)) hx hb d_PM_where_57 (by decide) ?_
    exact pz_iretS hx hb hr rfl hlocks (by rw [← hwh, List.drop_eq_nil_of_le (by omega)]; rfl) d_PM_where_58
  | succ mm ih =>
    intro k ls hk hwh hl
    obtain ⟨y, hy9⟩ : ∃ y, ys[k]? = some y := ⟨_, List.getElem?_eq_getElem (by omega)⟩
    have hkp : k < pgs.length := by omega
    have hp9 : pgs[k]? = some pgs[k] := List.getElem?_eq_getElem hkp
    have hdr : pgs.drop k = pgs[k] :: pgs.drop (k + 1) := List.drop_eq_getElem_cons hkp
    obtain ⟨pg, epg⟩ : ∃ pg, pg = pgs[k] := ⟨_, rfl⟩
    rw [← epg] at hp9 hdr
    rw [hdr] at hwh
    obtain ⟨hyL, z9, hzL, hfz, hfy⟩ := hY.2 k y _ hy9 hp9
    refine lv_iload_n hx hb d_PM_where_20 rfl (lv_at hl 2 rfl) ?_
    refine lv_aload_n hx hb d_PM_where_21 rfl (lv_at hl 0 rfl) ?_
    refine pz_get (ci := 4) (C := "PageMaker") (T := T_PM) (N := 4) hx hb htb in_PM hown hK hP hp hfp rfl 1 (by decide) (htb _ tw_161) (fun _ h9 => h9) rfl d_PM_where_22 ?_
    refine vp_callSi (va_Run.run (va_runV (As := []) (rest := [.int (nI k)]) ⟨hx, hb, hml, hown, hts⟩ (al_size l G L f _ el ed ys h_el) (cwV 0 hts (tb_V tw_177 tw_178 tw_179 tw_4 tw_180) rfl rfl rfl (by decide +kernel) ⟨(Nat.le_of_ble_eq_true rfl), (Nat.le_of_ble_eq_true rfl)⟩) (pz_preV (zz_ok _ _ _) hK hP hD hS hA hz (ci := 0) rfl rfl hm_el hc_el) rfl rfl hl.1 rfl (lv_room (Nat.le_of_ble_eq_true rfl)) d_PM_where_25 ⟨(Nat.le_of_ble_eq_true rfl), (Nat.le_of_ble_eq_true rfl)⟩)) (fun r2 hw => ?_)
    have hw : r2 = nI ys.length := hw
    subst r2
    refine lv_icmp_ge (tgt := 57) hx hb d_PM_where_28 (by decide) (fun c0 => absurd c0 (nI_ge (by omega) (by omega))) (fun _ => ?_)
    refine lv_aload_n hx hb d_PM_where_31 rfl (lv_at hl 0 rfl) ?_
    refine pz_get (ci := 4) (C := "PageMaker") (T := T_PM) (N := 4) hx hb htb in_PM hown hK hP hp hfp rfl 1 (by decide) (htb _ tw_161) (fun _ h9 => h9) rfl d_PM_where_32 ?_
    refine lv_iload_n hx hb d_PM_where_35 rfl (lv_at hl 2 rfl) ?_
    refine va_csq (va_Run.run (va_runV (As := [.int (nI k)]) (rest := []) ⟨hx, hb, hml, hown, hts⟩ (al_get l G L f _ el ed ys k y h_el hy9) (cwV 1 hts (tb_V tw_390 tw_391 tw_392 tw_4 tw_393) rfl rfl rfl (by decide +kernel) ⟨(Nat.le_of_ble_eq_true rfl), (Nat.le_of_ble_eq_true rfl)⟩) (pz_preV (zz_ok _ _ _) hK hP hD hS hA hz (ci := 0) rfl rfl hm_el hc_el) rfl rfl hl.1 rfl (lv_room (Nat.le_of_ble_eq_true rfl)) d_PM_where_36 ⟨(Nat.le_of_ble_eq_true rfl), (Nat.le_of_ble_eq_true rfl)⟩)) (fun r3 hw => ?_)
    have hw : r3 = some y := hw
    subst hw
    refine W.eq (g2 := F0 m 39 ls [.ref y]) rfl ?_
    refine va_castE hx hb hown (htb _ tw_446) (pz_recv hK hP (ci := 9) rfl hyL hfy) d_PM_where_39 ?_
    refine lv_iload_n hx hb d_PM_where_42 rfl (lv_at hl 1 rfl) ?_
    refine vp_callSi (va_Run.run (va_runV (As := [.int i]) (rest := []) ⟨hx, hb, hml, hown, hts⟩ (c_EP_holds l G L f _ y z9 pg.2.1 pg.2.2.1 pg.2.2.2.1 pg.2.2.2.2.1 pg.2.2.2.2.2.1 pg.2.2.2.2.2.2.2.1 i pg.2.2.2.2.2.2.1 pg.2.2.2.2.2.2.2.2 hyL hfy) (cwV 1 hts (tb_V tw_639 tw_640 tw_641 tw_22 tw_642) rfl rfl rfl (by decide +kernel) ⟨(Nat.le_of_ble_eq_true rfl), (Nat.le_of_ble_eq_true rfl)⟩) (pz_preV (zz_ok _ _ _) hK hP hD hS hA hz (ci := 9) rfl rfl hyL hfy) rfl rfl hl.1 rfl (lv_room (Nat.le_of_ble_eq_true rfl)) d_PM_where_43 ⟨(Nat.le_of_ble_eq_true rfl), (Nat.le_of_ble_eq_true rfl)⟩)) (fun r4 hw => ?_)
    rcases (show k_b (pg.2.1 ≤ i ∧ i < pg.2.2.1) r4 from hw) with ⟨rfl, hq5⟩ | ⟨rfl, hq5⟩
    · refine lv_if_eq (tgt := 51) hx hb d_PM_where_46 (by decide) (fun c0 => absurd c0 (by decide)) (fun _ => ?_)
      refine lv_iload_n hx hb d_PM_where_49 rfl (lv_at hl 2 rfl) ?_
      exact pz_iretS hx hb hr rfl hlocks (hwh ▸ (if_pos hq5).symm) d_PM_where_50
    · refine lv_if_eq (tgt := 51) hx hb d_PM_where_46 (by decide) (fun _ => ?_) (fun c0 => absurd c0 (by decide))
      refine lv_iinc (v := nI (k + 1)) (lv' := [(2, .int (nI (k + 1))), (0, .ref pm), (1, .int i)]) hx hb d_PM_where_51 hl (k := 2) rfl (nI_1 k) (by decide) rfl (fun ls hl => ?_)
      refine lv_goto (tgt := 20) hx hb d_PM_where_54 (by decide) ?_
      exact ih (k + 1) ls (by omega) ((if_neg hq5).symm.trans hwh) (lv_sub hl [1, 2, 0] rfl)
set_option maxHeartbeats 4000000 in
set_option maxRecDepth 100000 in
/-- where(i) -/
theorem c_PM_where (l : Launch) (G : gG) (L : List Nat) (f : Nat → va_E) (sz : Nat) (pm al ad el ed fr op to sa fo : Nat) (xs ys : List Nat) (its : List It) (F9 : Fr) (pgs : List (Fr × Pg)) (F : Fr) (P : Op) (T : Tt) (i : Int32) (hR : RX G L f pm al ad el ed fr op to sa fo xs ys (its, F9, pgs, F, P, T)) (hpg : pgs.length ≤ 512) (hi : 0 ≤ i ∧ i < nI its.length) : sI l y_PM_where w_PM_where ({ frames := 3, cells := 0, slots := 0, locals := 64 }) G L f sz [.ref pm, .int i] (fun r => r = wh_v pgs i 0) := by
  refine pz_met (cc := prog_1_method_11_code) (maxL := 3) (ret := (some .int)) (by decide) rfl (Nat.le_of_ble_eq_true rfl) ?_
  intro p e s m below meth c ls hx hb hr hml hts hown hlocks hin hsz hK hP hD hS hA hz hl
  have htb : ∀ w ∈ TB, w.before _ s = true := fun w h => hts w (List.mem_cons_of_mem _ h)
  have hl : lv_has ls 3 [(0, .ref pm), (1, .int i)] := hl
  obtain ⟨hp, hfp, h_al, h_el, hne9, hdd, hX, hY, hr9, hfr, ho, hfo, ht, hft, hs9, hsa, hr8, hfof⟩ := id hR
  have hX : XR L f xs its := hX
  have hY : YR L f ys pgs := hY
  have hfr : f fr = frE F9 := hfr
  have hfo : f op = opE to fo P := hfo
  have hft : f to = toE sa T := hft
  have hsa : f sa = saE G T := hsa
  have hfof : f fo = frE F := hfof
  obtain ⟨mo_al, hm_al, hc_al, -⟩ := id h_al
  obtain ⟨mo_el, hm_el, hc_el, -⟩ := id h_el
  have hxl : xs.length = its.length := hX.1
  refine lv_aload_n hx hb d_PM_where_0 rfl (lv_at hl 0 rfl) ?_
  refine lv_iload_n hx hb d_PM_where_1 rfl (lv_at hl 1 rfl) ?_
  refine vp_callSi (va_Run.run (va_runV (As := [.int i]) (rest := []) ⟨hx, hb, hml, hown, hts⟩ (c_PM_isItem l G L f _ pm al el fr op ad xs i hp hfp h_al) (cwV 1 hts (tb_V tw_386 tw_388 tp_7 tw_1 tw_389) rfl rfl rfl (by decide +kernel) ⟨(Nat.le_of_ble_eq_true rfl), (Nat.le_of_ble_eq_true rfl)⟩) (pz_preV (zz_ok _ _ _) hK hP hD hS hA hz (ci := 4) rfl rfl hp hfp) rfl rfl hl.1 rfl (lv_room (Nat.le_of_ble_eq_true rfl)) d_PM_where_2 ⟨(Nat.le_of_ble_eq_true rfl), (Nat.le_of_ble_eq_true rfl)⟩)) (fun r1 hw => ?_)
  have hw : r1 = 1 := k_by (show k_b (0 ≤ i ∧ i < nI xs.length) r1 from hw) (by rw [hxl]; exact hi)
  subst hw
  refine lv_if_ne (tgt := 18) hx hb d_PM_where_5 (by decide) (fun _ => ?_) (fun c0 => absurd c0 (by decide))
  refine lv_iconst (v := 0) hx hb d_PM_where_18 (by decide) ?_
  refine lv_istore_n (lv' := [(2, .int 0), (0, .ref pm), (1, .int i)]) hx hb d_PM_where_19 rfl hl (by decide) rfl (fun ls hl => ?_)
  exact lp_where l G L f sz pm al ad el ed fr op to sa fo xs ys its F9 pgs F P T i hx hb hr hml hts hown hlocks hK hP hD hS hA hz hR hpg pgs.length 0 ls (by omega) rfl (lv_sub hl [1, 2, 0] rfl)
set_option maxHeartbeats 4000000 in
set_option maxRecDepth 100000 in
/-- where throws -/
theorem x_PM_where (l : Launch) (hl9 : l.stackTraces = false) (G : gG) (L : List Nat) (f : Nat → va_E) (sz : Nat) (pm al ad el ed fr op to sa fo : Nat) (xs ys : List Nat) (its : List It) (F9 : Fr) (pgs : List (Fr × Pg)) (F : Fr) (P : Op) (T : Tt) (i : Int32) (hR : RX G L f pm al ad el ed fr op to sa fo xs ys (its, F9, pgs, F, P, T)) (hno : ¬ (0 ≤ i ∧ i < nI its.length)) : mX l y_PM_where w_PM_where ({ frames := 6, cells := 1, slots := 6, locals := 82 }) G L f sz [.ref pm, .int i] "java/lang/IndexOutOfBoundsException" := by
  refine pz_metX (cc := prog_1_method_11_code) (maxL := 3) (ret := (some .int)) (by decide) rfl (Nat.le_of_ble_eq_true rfl) ?_
  intro p e s m below meth c ls hx hb hr hml hts hown hlocks hnt hsz hK hP hD hS hA hz hl
  have htb : ∀ w ∈ TB, w.before _ s = true := fun w h => hts w (List.mem_cons_of_mem _ h)
  have hl : lv_has ls 3 [(0, .ref pm), (1, .int i)] := hl
  obtain ⟨hp, hfp, h_al, h_el, hne9, hdd, hX, hY, hr9, hfr, ho, hfo, ht, hft, hs9, hsa, hr8, hfof⟩ := id hR
  have hX : XR L f xs its := hX
  have hY : YR L f ys pgs := hY
  have hfr : f fr = frE F9 := hfr
  have hfo : f op = opE to fo P := hfo
  have hft : f to = toE sa T := hft
  have hsa : f sa = saE G T := hsa
  have hfof : f fo = frE F := hfof
  obtain ⟨mo_al, hm_al, hc_al, -⟩ := id h_al
  obtain ⟨mo_el, hm_el, hc_el, -⟩ := id h_el
  have hxl : xs.length = its.length := hX.1
  refine lv_aload_n hx hb d_PM_where_0 rfl (lv_at hl 0 rfl) ?_
  refine lv_iload_n hx hb d_PM_where_1 rfl (lv_at hl 1 rfl) ?_
  refine vp_callSi (va_Run.run (va_runV (As := [.int i]) (rest := []) ⟨hx, hb, hml, hown, hts⟩ (c_PM_isItem l G L f _ pm al el fr op ad xs i hp hfp h_al) (cwV 1 hts (tb_V tw_386 tw_388 tp_7 tw_1 tw_389) rfl rfl rfl (by decide +kernel) ⟨(Nat.le_of_ble_eq_true rfl), (Nat.le_of_ble_eq_true rfl)⟩) (pz_preV (zz_ok _ _ _) hK hP hD hS hA hz (ci := 4) rfl rfl hp hfp) rfl rfl hl.1 rfl (lv_room (Nat.le_of_ble_eq_true rfl)) d_PM_where_2 ⟨(Nat.le_of_ble_eq_true rfl), (Nat.le_of_ble_eq_true rfl)⟩)) (fun r1 hw => ?_)
  have hw : r1 = 0 := k_bn (show k_b (0 ≤ i ∧ i < nI xs.length) r1 from hw) (by rw [hxl]; exact hno)
  subst hw
  refine lv_if_ne (tgt := 18) hx hb d_PM_where_5 (by decide) (fun c0 => absurd c0 (by decide)) (fun _ => ?_)
  exact pz_thr 166 "no such item" 127 131 hx hb hl9 hown (by decide +kernel) htb hz hnt hlocks hK hP hD hS tw_615 tw_26 at_IOB1 at_IOB2 at_IOB3 (by decide +kernel) hml hl.1 d_PM_where_8 d_PM_where_11 d_PM_where_12 d_PM_where_14 d_PM_where_17 (Nat.le_of_ble_eq_true rfl) (Nat.le_of_ble_eq_true rfl) (Nat.le_of_ble_eq_true rfl) (Nat.le_of_ble_eq_true rfl) (Nat.le_of_ble_eq_true rfl) (Nat.le_of_ble_eq_true rfl)
end
