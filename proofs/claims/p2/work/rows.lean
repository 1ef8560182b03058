section
-- ===== PART A: goes FIRST, ahead of the names: the tables' words, and 'selects' of the private methods out of them =====
/-- a private method of a class that the tables say can be made, by its rows of tables_1 -/
def lw_okq (q : MethodName × Nat) : Prop := (q.1.cls ≠ "java/lang/invoke/MethodHandle" ∧ q.1.cls ≠ "java/lang/invoke/VarHandle") ∧ Cond.instantiable q.1.cls q.2 ∈ tables_1 ∧ Cond.privateMethod q.1 ∈ tables_1 ∧ Cond.instanceMethod q.1 ∈ tables_1
theorem lw_p0 : lw_okq (⟨"LendThreads", "find", "(I)LLendThreads$Work;"⟩, 5) := ⟨⟨by decide +kernel, by decide +kernel⟩, List.mem_of_getElem? (i := 15) (by decide +kernel), List.mem_of_getElem? (i := 175) (by decide +kernel), List.mem_of_getElem? (i := 176) (by decide +kernel)⟩
theorem lw_p1 : lw_okq (⟨"LendThreads", "isWork", "(I)Z"⟩, 5) := ⟨⟨by decide +kernel, by decide +kernel⟩, List.mem_of_getElem? (i := 15) (by decide +kernel), List.mem_of_getElem? (i := 179) (by decide +kernel), List.mem_of_getElem? (i := 180) (by decide +kernel)⟩
theorem lw_p2 : lw_okq (⟨"LendThreads", "isOther", "(II)Z"⟩, 5) := ⟨⟨by decide +kernel, by decide +kernel⟩, List.mem_of_getElem? (i := 15) (by decide +kernel), List.mem_of_getElem? (i := 187) (by decide +kernel), List.mem_of_getElem? (i := 188) (by decide +kernel)⟩
theorem lw_p3 : lw_okq (⟨"LendThreads", "takeTurn", "(LLendThreads$Work;)I"⟩, 5) := ⟨⟨by decide +kernel, by decide +kernel⟩, List.mem_of_getElem? (i := 15) (by decide +kernel), List.mem_of_getElem? (i := 210) (by decide +kernel), List.mem_of_getElem? (i := 211) (by decide +kernel)⟩
theorem lw_p4 : lw_okq (⟨"LendThreads", "actOrFail", "(LLendThreads$Work;)I"⟩, 5) := ⟨⟨by decide +kernel, by decide +kernel⟩, List.mem_of_getElem? (i := 15) (by decide +kernel), List.mem_of_getElem? (i := 222) (by decide +kernel), List.mem_of_getElem? (i := 223) (by decide +kernel)⟩
theorem lw_p5 : lw_okq (⟨"LendThreads", "undo", "(LLendThreads$Work;I)V"⟩, 5) := ⟨⟨by decide +kernel, by decide +kernel⟩, List.mem_of_getElem? (i := 15) (by decide +kernel), List.mem_of_getElem? (i := 226) (by decide +kernel), List.mem_of_getElem? (i := 227) (by decide +kernel)⟩
theorem lw_p6 : lw_okq (⟨"LendThreads", "sendAll", "(LLendThreads$Work;)V"⟩, 5) := ⟨⟨by decide +kernel, by decide +kernel⟩, List.mem_of_getElem? (i := 15) (by decide +kernel), List.mem_of_getElem? (i := 256) (by decide +kernel), List.mem_of_getElem? (i := 257) (by decide +kernel)⟩
theorem lw_p7 : lw_okq (⟨"LendThreads$Post", "isWay", "(I)Z"⟩, 3) := ⟨⟨by decide +kernel, by decide +kernel⟩, List.mem_of_getElem? (i := 67) (by decide +kernel), List.mem_of_getElem? (i := 272) (by decide +kernel), List.mem_of_getElem? (i := 273) (by decide +kernel)⟩
theorem lw_p8 : lw_okq (⟨"LendThreads", "goForNext", "(LLendThreads$Work;)I"⟩, 5) := ⟨⟨by decide +kernel, by decide +kernel⟩, List.mem_of_getElem? (i := 15) (by decide +kernel), List.mem_of_getElem? (i := 276) (by decide +kernel), List.mem_of_getElem? (i := 277) (by decide +kernel)⟩
theorem lw_p9 : lw_okq (⟨"LendThreads", "goForCopy", "(LLendThreads$Work;I)I"⟩, 5) := ⟨⟨by decide +kernel, by decide +kernel⟩, List.mem_of_getElem? (i := 15) (by decide +kernel), List.mem_of_getElem? (i := 280) (by decide +kernel), List.mem_of_getElem? (i := 281) (by decide +kernel)⟩
theorem lw_p10 : lw_okq (⟨"LendThreads", "goForMessage", "(LLendThreads$Work;I)I"⟩, 5) := ⟨⟨by decide +kernel, by decide +kernel⟩, List.mem_of_getElem? (i := 15) (by decide +kernel), List.mem_of_getElem? (i := 299) (by decide +kernel), List.mem_of_getElem? (i := 300) (by decide +kernel)⟩
theorem lw_p11 : lw_okq (⟨"LendThreads", "greatestInRingOf", "(I)I"⟩, 5) := ⟨⟨by decide +kernel, by decide +kernel⟩, List.mem_of_getElem? (i := 15) (by decide +kernel), List.mem_of_getElem? (i := 323) (by decide +kernel), List.mem_of_getElem? (i := 324) (by decide +kernel)⟩
theorem lw_p12 : lw_okq (⟨"java/lang/Throwable", "fillInStackTrace", "(I)Ljava/lang/Throwable;"⟩, 6) := ⟨⟨by decide +kernel, by decide +kernel⟩, List.mem_of_getElem? (i := 422) (by decide +kernel), List.mem_of_getElem? (i := 420) (by decide +kernel), List.mem_of_getElem? (i := 421) (by decide +kernel)⟩
theorem lw_p13 : lw_okq (⟨"LendThreadsModel", "isStep", "(II)Z"⟩, 29) := ⟨⟨by decide +kernel, by decide +kernel⟩, List.mem_of_getElem? (i := 452) (by decide +kernel), List.mem_of_getElem? (i := 558) (by decide +kernel), List.mem_of_getElem? (i := 559) (by decide +kernel)⟩
theorem lw_p14 : lw_okq (⟨"LendThreadsModel", "isWork", "(I)Z"⟩, 29) := ⟨⟨by decide +kernel, by decide +kernel⟩, List.mem_of_getElem? (i := 452) (by decide +kernel), List.mem_of_getElem? (i := 562) (by decide +kernel), List.mem_of_getElem? (i := 563) (by decide +kernel)⟩
theorem lw_p15 : lw_okq (⟨"LendThreadsModel", "does", "(I)I"⟩, 29) := ⟨⟨by decide +kernel, by decide +kernel⟩, List.mem_of_getElem? (i := 452) (by decide +kernel), List.mem_of_getElem? (i := 578) (by decide +kernel), List.mem_of_getElem? (i := 579) (by decide +kernel)⟩
def lw_privs_1 : List (MethodName × Nat) := [(⟨"LendThreads", "find", "(I)LLendThreads$Work;"⟩, 5), (⟨"LendThreads", "isWork", "(I)Z"⟩, 5), (⟨"LendThreads", "isOther", "(II)Z"⟩, 5), (⟨"LendThreads", "takeTurn", "(LLendThreads$Work;)I"⟩, 5), (⟨"LendThreads", "actOrFail", "(LLendThreads$Work;)I"⟩, 5), (⟨"LendThreads", "undo", "(LLendThreads$Work;I)V"⟩, 5), (⟨"LendThreads", "sendAll", "(LLendThreads$Work;)V"⟩, 5), (⟨"LendThreads$Post", "isWay", "(I)Z"⟩, 3), (⟨"LendThreads", "goForNext", "(LLendThreads$Work;)I"⟩, 5), (⟨"LendThreads", "goForCopy", "(LLendThreads$Work;I)I"⟩, 5), (⟨"LendThreads", "goForMessage", "(LLendThreads$Work;I)I"⟩, 5), (⟨"LendThreads", "greatestInRingOf", "(I)I"⟩, 5), (⟨"java/lang/Throwable", "fillInStackTrace", "(I)Ljava/lang/Throwable;"⟩, 6), (⟨"LendThreadsModel", "isStep", "(II)Z"⟩, 29), (⟨"LendThreadsModel", "isWork", "(I)Z"⟩, 29), (⟨"LendThreadsModel", "does", "(I)I"⟩, 29)]
theorem lw_r1 : ∀ q ∈ lw_privs_1, lw_okq q := List.forall_mem_cons.mpr ⟨lw_p0, List.forall_mem_cons.mpr ⟨lw_p1, List.forall_mem_cons.mpr ⟨lw_p2, List.forall_mem_cons.mpr ⟨lw_p3, List.forall_mem_cons.mpr ⟨lw_p4, List.forall_mem_cons.mpr ⟨lw_p5, List.forall_mem_cons.mpr ⟨lw_p6, List.forall_mem_cons.mpr ⟨lw_p7, List.forall_mem_cons.mpr ⟨lw_p8, List.forall_mem_cons.mpr ⟨lw_p9, List.forall_mem_cons.mpr ⟨lw_p10, List.forall_mem_cons.mpr ⟨lw_p11, List.forall_mem_cons.mpr ⟨lw_p12, List.forall_mem_cons.mpr ⟨lw_p13, List.forall_mem_cons.mpr ⟨lw_p14, List.forall_mem_cons.mpr ⟨lw_p15, fun _ h => absurd h List.not_mem_nil⟩⟩⟩⟩⟩⟩⟩⟩⟩⟩⟩⟩⟩⟩⟩⟩
theorem lw_p16 : lw_okq (⟨"LendThreadsModel", "takes", "(II)I"⟩, 29) := ⟨⟨by decide +kernel, by decide +kernel⟩, List.mem_of_getElem? (i := 452) (by decide +kernel), List.mem_of_getElem? (i := 582) (by decide +kernel), List.mem_of_getElem? (i := 583) (by decide +kernel)⟩
theorem lw_p17 : lw_okq (⟨"LendThreadsModel", "ahead", "(II)I"⟩, 29) := ⟨⟨by decide +kernel, by decide +kernel⟩, List.mem_of_getElem? (i := 452) (by decide +kernel), List.mem_of_getElem? (i := 586) (by decide +kernel), List.mem_of_getElem? (i := 587) (by decide +kernel)⟩
theorem lw_p18 : lw_okq (⟨"LendThreadsModel", "hears", "(II)I"⟩, 29) := ⟨⟨by decide +kernel, by decide +kernel⟩, List.mem_of_getElem? (i := 452) (by decide +kernel), List.mem_of_getElem? (i := 590) (by decide +kernel), List.mem_of_getElem? (i := 591) (by decide +kernel)⟩
theorem lw_p19 : lw_okq (⟨"LendThreadsModel", "undo", "(II)V"⟩, 29) := ⟨⟨by decide +kernel, by decide +kernel⟩, List.mem_of_getElem? (i := 452) (by decide +kernel), List.mem_of_getElem? (i := 594) (by decide +kernel), List.mem_of_getElem? (i := 595) (by decide +kernel)⟩
theorem lw_p20 : lw_okq (⟨"LendThreadsModel", "frees", "(I)V"⟩, 29) := ⟨⟨by decide +kernel, by decide +kernel⟩, List.mem_of_getElem? (i := 452) (by decide +kernel), List.mem_of_getElem? (i := 598) (by decide +kernel), List.mem_of_getElem? (i := 599) (by decide +kernel)⟩
theorem lw_p21 : lw_okq (⟨"LendThreadsModel", "acts", "(I)V"⟩, 29) := ⟨⟨by decide +kernel, by decide +kernel⟩, List.mem_of_getElem? (i := 452) (by decide +kernel), List.mem_of_getElem? (i := 602) (by decide +kernel), List.mem_of_getElem? (i := 603) (by decide +kernel)⟩
theorem lw_p22 : lw_okq (⟨"LendThreadsModel", "waitsOn", "(I)I"⟩, 29) := ⟨⟨by decide +kernel, by decide +kernel⟩, List.mem_of_getElem? (i := 452) (by decide +kernel), List.mem_of_getElem? (i := 614) (by decide +kernel), List.mem_of_getElem? (i := 615) (by decide +kernel)⟩
def lw_privs_2 : List (MethodName × Nat) := [(⟨"LendThreadsModel", "takes", "(II)I"⟩, 29), (⟨"LendThreadsModel", "ahead", "(II)I"⟩, 29), (⟨"LendThreadsModel", "hears", "(II)I"⟩, 29), (⟨"LendThreadsModel", "undo", "(II)V"⟩, 29), (⟨"LendThreadsModel", "frees", "(I)V"⟩, 29), (⟨"LendThreadsModel", "acts", "(I)V"⟩, 29), (⟨"LendThreadsModel", "waitsOn", "(I)I"⟩, 29)]
theorem lw_r2 : ∀ q ∈ lw_privs_2, lw_okq q := List.forall_mem_cons.mpr ⟨lw_p16, List.forall_mem_cons.mpr ⟨lw_p17, List.forall_mem_cons.mpr ⟨lw_p18, List.forall_mem_cons.mpr ⟨lw_p19, List.forall_mem_cons.mpr ⟨lw_p20, List.forall_mem_cons.mpr ⟨lw_p21, List.forall_mem_cons.mpr ⟨lw_p22, fun _ h => absurd h List.not_mem_nil⟩⟩⟩⟩⟩⟩⟩
def lw_privs : List (MethodName × Nat) := lw_privs_1 ++ (lw_privs_2)
def lw_tbl : List Cond := k2_sels lw_privs ++ tables_1
theorem lw_privs_ok : ∀ q ∈ lw_privs, lw_okq q := by
  show ∀ q ∈ lw_privs_1 ++ (lw_privs_2), lw_okq q
  exact List.forall_mem_append.mpr ⟨lw_r1, lw_r2⟩
end
section
/-! ===== BEGIN words of one list among another's, by their places ===== -/
theorem goodIn_r {big : List Cond} (ws : List Cond) (ps : List Nat) (hp : ws = ps.filterMap (fun i => big[i]?)) (h : ws.all goodWord = true) : GoodIn big ws := by
  intro w hw
  have h1 := List.all_eq_true.mp h w hw
  rw [hp] at hw
  obtain ⟨i, -, hi⟩ := List.mem_filterMap.mp hw
  have hm : w ∈ big := by first | exact List.mem_of_getElem? hi | exact List.getElem?_mem hi
  exact ⟨hm, good_of_word h1⟩
theorem goodIn_app {big a b : List Cond} (ha : GoodIn big a) (hb : GoodIn big b) : GoodIn big (a ++ b) := fun w h => (List.mem_append.mp h).elim (ha w) (hb w)
theorem goodIn_ca {big a b : List Cond} {c : Cond} (ha : GoodIn big (c :: a)) (hb : GoodIn big b) : GoodIn big (c :: (a ++ b)) := fun w h => (List.mem_cons.mp h).elim (fun e => ha w (List.mem_cons.mpr (Or.inl e))) (fun h => (List.mem_append.mp h).elim (fun h => ha w (List.mem_cons.mpr (Or.inr h))) (hb w))
theorem goodIn_sub {big ws : List Cond} (hm : ∀ w ∈ ws, w ∈ big) (h : ws.all goodWord = true) : GoodIn big ws := fun w hw => ⟨hm w hw, good_of_word (List.all_eq_true.mp h w hw)⟩
/-! ===== END ===== -/

/-! ===== BEGIN exceptions that leave a method, and their catching by the caller (launches without stack traces) ===== -/
section VXA
/-! The laws vx_back, vx_callV, vx_callS, vx_callSW, vx_throw0, vx_throwS follow proofs of the library, with one case more: JvmDerived/Free/Laws.lean (Back.of_free), Shelf42/LK1.lean (callV, callS), Shelf/KitTraced.lean (throwNew0V, throwNewS). -/
/-- where a method has thrown q: the class by its name, the cell, what was written, the world -/
def vx_T (XC : String → State → State → Prop) (st : State) (q : Addr) (t : State) (mc ms : Nat) (free : Addr → Prop) : Prop :=
  ∃ (E : String) (ce : Cell) (L : List Loc), XC E st t ∧ t.heap[q]? = some ce ∧ ce.vm = .none ∧ st.vm.findClass E = some ce.cls ∧ st.WarmedH t.vm ∧ st.sameButNew ({ t with vm := st.vm } : State) L mc ms ∧ ∀ z ∈ L, free z.base
def vx_Q (Qc : Array Value → State → Outcome → State → Prop) (XC : String → State → State → Prop) (mc ms : Nat) (free : Addr → Prop) : Array Value → State → Outcome → State → Prop := fun a st o t =>
  (Qc a st o t ∧ ∃ L, FrameEnd st o t L mc ms ∧ ∀ q ∈ L, free q.base) ∨ ∃ q, o = .threw q ∧ vx_T XC st q t mc ms free
/-- a callee that returns or throws -/
def vx_Met (l : Launch) (y : MethodName) (ws : List Cond) (rm : Room) (Pc : Array Value → State → Prop) (Qc : Array Value → State → Outcome → State → Prop) (XC : String → State → State → Prop) (mc ms : Nat) (free : Addr → Prop) : Prop :=
  MetFree l y (headSpec ws rm) Pc (fun _ _ _ _ _ => True) (vx_Q Qc XC mc ms free)
def vx_Post (XC : String → State → State → Prop) (mc ms : Nat) (free : Addr → Prop) : Pt → Array Value → Addr → Pt → Prop := fun A a q B =>
  ∃ (g : JFrame) (mk : MethodId) (t : State) (L : List Loc) (E : String) (ce : Cell), B.U.heap = t.heap ∧ B.U.vm = t.vm ∧ XC E (A.U.calling g mk a) t ∧ t.heap[q]? = some ce ∧ ce.vm = .none ∧ A.U.vm.findClass E = some ce.cls ∧ B.locs = A.locs ++ L ∧ (∀ z ∈ L, free z.base) ∧ B.cells = A.cells + mc ∧ B.slots = A.slots + ms
def vx_Back (l : Launch) (R : Room) (p : Program) (e : Env) (below : List Frame) (s : State) (sargs : Array Value) (y : MethodName) (len W9 : Nat)
    (Pre : Pt → Array Value → Prop) (Post : Pt → Array Value → Option Value → Pt → Prop) (PostX : Pt → Array Value → Addr → Pt → Prop) : Prop :=
  ∀ (m : MethodId) (meth : Method) (c : Code) (A : Pt) (g : JFrame) (ig : Instr) (mk : MethodId) (a : Array Value),
    Stand p l e R s m sargs below meth c A.U A.locs A.cells A.slots → g.method = m → g.locals.size = c.maxLocals → decode c.code g.pc = .ok (ig, len) →
    2 * g.monitorRoom + (g.stack.map fun v => v.category).sum ≤ W9 → A.U.methodNamed? y = some mk → Pre A a →
    (∃ (v : Option Value) (B : Pt), Stand p l e R s m sargs below meth c B.U B.locs B.cells B.slots ∧ Post A a v B ∧
      Steps p.tables e below (doInvoke e (A.U.setTop g) [] mk a).1 (B.U.setTop { g with pc := g.pc + len, stack := v.toList ++ g.stack })) ∨
    (∃ (q : Addr) (B : Pt), Stand p l e R s m sargs below meth c B.U B.locs B.cells B.slots ∧ PostX A a q B ∧
      Steps p.tables e below (doInvoke e (A.U.setTop g) [] mk a).1 ((B.U.setTop g).pushFrame (.throwing q)))
section Payer
variable {l : Launch} {R : Room} {p : Program} {e : Env} {below : List Frame} {s : State} {sargs : Array Value} {y : MethodName} {len W9 : Nat}
theorem vx_back {ws : List Cond} {rm : Room} {Pc : Array Value → State → Prop} {Qc : Array Value → State → Outcome → State → Prop} {XC : String → State → State → Prop} {mc ms : Nat} {free : Addr → Prop} {bytes : ByteArray} {maxL : Nat} {ret : Option FieldType}
    (hM : vx_Met l y ws rm Pc Qc XC mc ms free) (hblind : FrameBlind Pc) (hrc : rm.cells = mc) (hrs : rm.slots = ms)
    (hframes : rm.frames + 1 ≤ R.frames) (hlocals : W9 + (maxL + 11) + rm.locals ≤ R.locals)
    (hws : ∀ w ∈ ws, ∀ a' U, s.WarmedH U.vm → w.before a' U = true) (hcode : Cond.code y bytes maxL ret ∈ ws) (hinit : ∀ a' U, s.WarmedH U.vm → (Cond.initialized y.cls).before a' U = true) :
    vx_Back l R p e below s sargs y len W9 (PreOf R mc ms Pc) (PostOf Qc mc ms free) (vx_Post XC mc ms free) := by
  intro m meth c A g ig mk a X hg hsize hdg hW hn hp
  have h1 : (headSpec ws rm).pre.before a A.U = true := atoms_intro fun w hw => hws w hw _ _ X.warmed
  have h2 : (Cond.code y bytes maxL ret).before a A.U = true := hws _ hcode _ _ X.warmed
  have h3 : (Cond.initialized y.cls).before a A.U = true := hinit _ _ X.warmed
  have h4 : A.cells + (headSpec ws rm).room.cells ≤ R.cells := by rw [show (headSpec ws rm).room.cells = mc from hrc]; exact hp.1
  have h5 : A.slots + (headSpec ws rm).room.slots ≤ R.slots := by rw [show (headSpec ws rm).room.slots = ms from hrs]; exact hp.2.1
  have hPc : Pc a (A.U.calling g mk a) := hblind _ _ _ _ hp.2.2
  obtain ⟨U, Ls, c0, s0⟩ := A
  dsimp only [Pt.U, Pt.locs, Pt.cells, Pt.slots] at h1 h2 h3 h4 h5 X hn hPc ⊢
  obtain ⟨methY, cY, hmY, hcY, -, hlY, -, -, -, -⟩ := Cond.code_spec hn h2
  obtain ⟨kY, hkY, -⟩ := className_of_methodNamed hn
  have hinitY : kY.init = .initialized := Cond.initialized_spec (findClass_of_methodNamed hn) hkY h3
  have h : At U g.method c below := by rw [hg]; exact X.here
  have hlocals9 : W9 + (maxL + 11) + (headSpec ws rm).room.locals ≤ R.locals := hlocals
  have happ : (headSpec ws rm).appliesLoose y e.platform (U.calling g mk a) = true :=
    Spec.appliesLoose_calling (g := g) h hdg hn hkY hinitY
      (X.room_calling (g := g) (R' := (headSpec ws rm).room) hsize hmY hcY hframes (by rw [hlY]; omega) h4 h5) h1
  obtain ⟨mid, hmid⟩ := h.above
  have hfr : (U.setTop g).frames = (.java g :: mid) ++ below := by rw [State.frames_setTop' g h.top, hmid]; rfl
  obtain ⟨o, s₂, hsteps, -, hend, hq⟩ := Steps.callFree hM p X.admits X.cas X.clock (acts := []) hfr happ hPc trivial
  have hq' : vx_Q Qc XC mc ms free a (U.calling g mk a) o s₂ := hq
  rw [State.frames_setTop' g h.top] at hend
  obtain ⟨g₀, hg0⟩ := Option.isSome_iff_exists.mp h.top
  obtain ⟨r, hr⟩ := State.topJava?_eq_some.mp hg0
  have hr' : (({ U with heap := s₂.heap, slotsUsed := s₂.slotsUsed } : State).setVm s₂.vm).frames = .java g₀ :: r := hr
  rcases hq' with ⟨hqc, L, hfe, hL⟩ | ⟨q, rfl, E, ce, L, hx, hce, hcv, hcl, hW₂, hsm, hL⟩
  · obtain ⟨⟨v, rfl⟩, hW₂, e2, q2, q3, q4, q5, q6⟩ := id hfe
    have e3 : s₂ = ({ (U.calling g mk a).setFrames s₂.frames with heap := s₂.heap, slotsUsed := s₂.slotsUsed } : State).setVm s₂.vm := by
      have : s₂ = ({ s₂ with vm := (U.calling g mk a).vm } : State).setVm s₂.vm := rfl
      rw [e2] at this
      exact this
    obtain ⟨c₂, i₂, len₂, hc₂, hd₂, hf₂⟩ := hend
    have hW' : U.WarmedH s₂.vm := hW₂
    have hcc : c₂ = c := by
      have h1 : s₂.code? g.method = U.code? g.method := by
        rw [State.code?_eq, State.code?_eq, hW'.alike.method?]
      exact Option.some.inj (hc₂.symm.trans (h1.trans h.code))
    subst hcc
    have hlen : len₂ = len := by rw [hdg] at hd₂; cases hd₂; rfl
    subst hlen
    have hs₂ : s₂ = (({ U with heap := s₂.heap, slotsUsed := s₂.slotsUsed } : State).setVm s₂.vm).setTop { g with pc := g.pc + len₂, stack := v.toList ++ g.stack } := by
      refine e3.trans ?_
      rw [hf₂, State.calling_eq h.top, State.setFrames_setFrames, State.setTop_of_frames _ hr', hr]
      rfl
    have hsame : U.sameButNew ({ U with heap := s₂.heap, slotsUsed := s₂.slotsUsed } : State) L mc ms := by
      refine ⟨?_, q2, q3, q4, q5, q6⟩
      obtain ⟨t, ht, -⟩ := State.frames_cons hr
      show ({ U with heap := s₂.heap, slotsUsed := s₂.slotsUsed } : State) = { U.setFrames U.frames with heap := s₂.heap, slotsUsed := s₂.slotsUsed }
      rw [State.setFrames_self ht]
    subst hg
    refine Or.inl ⟨v, ⟨(({ U with heap := s₂.heap, slotsUsed := s₂.slotsUsed } : State).setVm s₂.vm), Ls ++ L, c0 + mc, s0 + ms⟩,
      ⟨X.admits, X.cas, X.clock, X.frames, X.room, X.hears, X.method, X.code, (X.here.setHeapUsed s₂.heap s₂.slotsUsed).setVm hW'.alike, X.tail, State.WarmedH.trans X.warmed hW', X.limits, X.bytes, X.same.trans (hsame.setVm s.vm)⟩,
      ⟨g, mk, s₂, L, rfl, rfl, hqc, rfl, hL, rfl, rfl⟩, ?_⟩
    show Steps p.tables e below _ ((({ U with heap := s₂.heap, slotsUsed := s₂.slotsUsed } : State).setVm s₂.vm).setTop { g with pc := g.pc + len₂, stack := v.toList ++ g.stack })
    rw [← hs₂]
    exact hsteps
  · obtain ⟨e2, q2, q3, q4, q5, q6⟩ := id hsm
    have e3 : s₂ = ({ (U.calling g mk a).setFrames s₂.frames with heap := s₂.heap, slotsUsed := s₂.slotsUsed } : State).setVm s₂.vm := by
      have : s₂ = ({ s₂ with vm := (U.calling g mk a).vm } : State).setVm s₂.vm := rfl
      rw [e2] at this
      exact this
    have hf₂ : s₂.frames = .throwing q :: .java g :: U.frames.tail := hend
    have hW' : U.WarmedH s₂.vm := hW₂
    have hs₂ : s₂ = ((({ U with heap := s₂.heap, slotsUsed := s₂.slotsUsed } : State).setVm s₂.vm).setTop g).pushFrame (.throwing q) := by
      refine e3.trans ?_
      rw [hf₂, State.calling_eq h.top, State.setFrames_setFrames, State.pushFrame, State.frames_setTop _ hr', State.setTop_of_frames _ hr', State.setFrames_setFrames, hr]
      rfl
    have hsame : U.sameButNew ({ U with heap := s₂.heap, slotsUsed := s₂.slotsUsed } : State) L mc ms := by
      refine ⟨?_, q2, q3, q4, q5, q6⟩
      obtain ⟨t, ht, -⟩ := State.frames_cons hr
      show ({ U with heap := s₂.heap, slotsUsed := s₂.slotsUsed } : State) = { U.setFrames U.frames with heap := s₂.heap, slotsUsed := s₂.slotsUsed }
      rw [State.setFrames_self ht]
    subst hg
    refine Or.inr ⟨q, ⟨(({ U with heap := s₂.heap, slotsUsed := s₂.slotsUsed } : State).setVm s₂.vm), Ls ++ L, c0 + mc, s0 + ms⟩,
      ⟨X.admits, X.cas, X.clock, X.frames, X.room, X.hears, X.method, X.code, (X.here.setHeapUsed s₂.heap s₂.slotsUsed).setVm hW'.alike, X.tail, State.WarmedH.trans X.warmed hW', X.limits, X.bytes, X.same.trans (hsame.setVm s.vm)⟩,
      ⟨g, mk, s₂, L, E, ce, rfl, rfl, hx, hce, hcv, hcl, rfl, hL, rfl, rfl⟩, ?_⟩
    show Steps p.tables e below _ (((({ U with heap := s₂.heap, slotsUsed := s₂.slotsUsed } : State).setVm s₂.vm).setTop g).pushFrame (.throwing q))
    rw [← hs₂]
    exact hsteps
end Payer
section Calls
variable {p : Program} {l : Launch} {e : Env} {R : Room} {s : State} {m : MethodId} {args : Array Value} {below : List Frame} {meth : Method} {c : Code} {T : State} {locs : List Loc} {cells slots : Nat}
theorem vx_callV (X : Stand p l e R s m args below meth c T locs cells slots) (hexec : p.tables.exec = Jvm.exec) {own C : String} {index : Nat} {y : MethodName} {bytes : ByteArray} {maxL : Nat} {ret : Option FieldType}
    (hown : s.vm.findClass own = some m.cls) (hlink : (Cond.methodLink own index y).before args s = true) (hinst : (Cond.instanceMethod y).before args s = true) (hsel : (Cond.selects C y y).before args s = true)
    (hcode : (Cond.code y bytes maxL ret).before args s = true) (hy : y.cls ≠ "java/lang/invoke/MethodHandle" ∧ y.cls ≠ "java/lang/invoke/VarHandle")
    {W9 : Nat} {Pre : Pt → Array Value → Prop} {Post : Pt → Array Value → Option Value → Pt → Prop} {PostX : Pt → Array Value → Addr → Pt → Prop} (hK : vx_Back l R p e below s args y 3 W9 Pre Post PostX)
    {b : Addr} {cellB : Cell} (hcell : T.heap[b]? = some cellB) (hobj : cellB.vm.isStatics = false) (hcls : s.vm.findClass C = some cellB.cls)
    {g : JFrame} (hg : g.method = m) (hsize : g.locals.size = c.maxLocals) {argsL rest : List Value} (hlen : ∀ sig, parseMethodDescriptor y.desc = some sig → argsL.length = sig.parameters.length)
    (hstack : g.stack = argsL.reverse ++ .ref b :: rest) (hW : 2 * g.monitorRoom + (rest.map fun v => v.category).sum ≤ W9) (hdg : decode c.code g.pc = .ok (.invokevirtual index, 3))
    (hpre : ∀ vm₁, s.WarmedH vm₁ → Pre ⟨T.setVm vm₁, locs, cells, slots⟩ (Value.ref b :: argsL).toArray) :
    (∃ (v : Option Value) (vm₁ : Vm) (B : Pt), s.WarmedH vm₁ ∧ Stand p l e R s m args below meth c B.U B.locs B.cells B.slots ∧ Post ⟨T.setVm vm₁, locs, cells, slots⟩ (Value.ref b :: argsL).toArray v B ∧
      ∀ target, Steps p.tables e below (B.U.setTop { g with pc := g.pc + 3, stack := v.toList ++ rest }) target → Steps p.tables e below (T.setTop g) target) ∨
    (∃ (q : Addr) (vm₁ : Vm) (B : Pt), s.WarmedH vm₁ ∧ Stand p l e R s m args below meth c B.U B.locs B.cells B.slots ∧ PostX ⟨T.setVm vm₁, locs, cells, slots⟩ (Value.ref b :: argsL).toArray q B ∧
      Steps p.tables e below (T.setTop g) ((B.U.setTop { g with stack := rest }).pushFrame (.throwing q))) := by
  obtain ⟨mk, methM, hnamed, hmethM, hstM, habM⟩ := Cond.instanceMethod_spec hinst
  obtain ⟨methM', cM, hmethM', -, -, -, -, -, -, hsigM⟩ := Cond.code_spec hnamed hcode
  cases hmethM.symm.trans hmethM'
  obtain ⟨c2, r2, m2, q1, q2, q3, q4, kP, hkP, hkPi⟩ := Cond.selects_spec hsel
  cases hcls.symm.trans q1
  cases (State.methodFound?_of_named hnamed hy).symm.trans q2
  cases hnamed.symm.trans q3
  have hselP : selectMethod e.platform s.vm cellB.cls mk = .method mk := by rw [Launch.admits_selectMethod X.admits]; exact q4
  obtain ⟨vm₁, X₁, hstep₁⟩ := X.invokevirtual hexec hown hlink hnamed hmethM hstM hkP hkPi hy (a := b) (cell := cellB) hcell
    (fun z h => by rw [h] at hobj; cases hobj) hselP hmethM habM hkP hkPi (g := g) hg (argsL := argsL) (rest := rest) (hlen _ hsigM) hstack hdg
  rcases hK m meth c ⟨T.setVm vm₁, locs, cells, slots⟩ { g with stack := rest } (.invokevirtual index) mk (Value.ref b :: argsL).toArray X₁ hg hsize hdg hW (X₁.named hnamed) (hpre vm₁ X₁.warmed) with ⟨v, B, X', hpost, hsteps⟩ | ⟨q, B, X', hpost, hsteps⟩
  · exact Or.inl ⟨v, vm₁, B, X₁.warmed, X', hpost, fun target h => hstep₁ _ fun acts => by rw [doInvoke_state]; exact hsteps.trans h⟩
  · exact Or.inr ⟨q, vm₁, B, X₁.warmed, X', hpost, hstep₁ _ fun acts => by rw [doInvoke_state]; exact hsteps⟩
theorem vx_callS (X : Stand p l e R s m args below meth c T locs cells slots) (hexec : p.tables.exec = Jvm.exec) {own : String} {index : Nat} {y : MethodName} {bytes : ByteArray} {maxL : Nat} {ret : Option FieldType}
    (hown : s.vm.findClass own = some m.cls) (hlink : (Cond.methodLink own index y).before args s = true) (hstat : (Cond.static y).before args s = true) (hinit : (Cond.initialized y.cls).before args s = true)
    (hcode : (Cond.code y bytes maxL ret).before args s = true) (hy : y.cls ≠ "java/lang/invoke/MethodHandle" ∧ y.cls ≠ "java/lang/invoke/VarHandle")
    {W9 : Nat} {Pre : Pt → Array Value → Prop} {Post : Pt → Array Value → Option Value → Pt → Prop} {PostX : Pt → Array Value → Addr → Pt → Prop} (hK : vx_Back l R p e below s args y 3 W9 Pre Post PostX)
    {g : JFrame} (hg : g.method = m) (hsize : g.locals.size = c.maxLocals) {argsL rest : List Value} (hlen : ∀ sig, parseMethodDescriptor y.desc = some sig → argsL.length = sig.parameters.length)
    (hstack : g.stack = argsL.reverse ++ rest) (hW : 2 * g.monitorRoom + (rest.map fun v => v.category).sum ≤ W9) (hdg : decode c.code g.pc = .ok (.invokestatic index, 3))
    (hpre : ∀ vm₁, s.WarmedH vm₁ → Pre ⟨T.setVm vm₁, locs, cells, slots⟩ argsL.toArray) :
    (∃ (v : Option Value) (vm₁ : Vm) (B : Pt), s.WarmedH vm₁ ∧ Stand p l e R s m args below meth c B.U B.locs B.cells B.slots ∧ Post ⟨T.setVm vm₁, locs, cells, slots⟩ argsL.toArray v B ∧
      ∀ target, Steps p.tables e below (B.U.setTop { g with pc := g.pc + 3, stack := v.toList ++ rest }) target → Steps p.tables e below (T.setTop g) target) ∨
    (∃ (q : Addr) (vm₁ : Vm) (B : Pt), s.WarmedH vm₁ ∧ Stand p l e R s m args below meth c B.U B.locs B.cells B.slots ∧ PostX ⟨T.setVm vm₁, locs, cells, slots⟩ argsL.toArray q B ∧
      Steps p.tables e below (T.setTop g) ((B.U.setTop { g with stack := rest }).pushFrame (.throwing q))) := by
  obtain ⟨mk, hnamed⟩ := Cond.code_named hcode
  obtain ⟨methM, cM, hmethM, -, -, -, -, -, -, hsigM⟩ := Cond.code_spec hnamed hcode
  have hstatic : methM.isStatic = true := Cond.static_spec hnamed hmethM hstat
  obtain ⟨kP, hkP, -⟩ := className_of_methodNamed hnamed
  have hinitP : kP.init = .initialized := Cond.initialized_spec (findClass_of_methodNamed hnamed) hkP hinit
  obtain ⟨vm₁, X₁, hstep₁⟩ := X.invokestatic hexec hown hlink hnamed hmethM hstatic hkP hinitP hy (g := g) hg (argsL := argsL) (rest := rest) (hlen _ hsigM) hstack hdg
  rcases hK m meth c ⟨T.setVm vm₁, locs, cells, slots⟩ { g with stack := rest } (.invokestatic index) mk argsL.toArray X₁ hg hsize hdg hW (X₁.named hnamed) (hpre vm₁ X₁.warmed) with ⟨v, B, X', hpost, hsteps⟩ | ⟨q, B, X', hpost, hsteps⟩
  · exact Or.inl ⟨v, vm₁, B, X₁.warmed, X', hpost, fun target h => hstep₁ _ fun acts => by rw [doInvoke_state]; exact hsteps.trans h⟩
  · exact Or.inr ⟨q, vm₁, B, X₁.warmed, X', hpost, hstep₁ _ fun acts => by rw [doInvoke_state]; exact hsteps⟩
end Calls
theorem vx_cls {s : State} {T : State} {vm₁ : Vm} {E : String} {k : ClassId} (hW : s.WarmedH vm₁) (h : (T.setVm vm₁).vm.findClass E = some k) : s.vm.findClass E = some k := by
  have h1 : vm₁.findClass E = some k := h
  rw [hW.alike.findClass] at h1
  exact h1
/-- the method's frame g, with q thrown over it -/
def vx_W (p : Program) (l : Launch) (e : Env) (R : Room) (s : State) (m : MethodId) (args : Array Value) (below : List Frame) (meth : Method) (c : Code) (H : Heap) (locs : List Loc) (cells slots : Nat) (Q : State → Prop) (g : JFrame) (q : Addr) : Prop :=
  ∀ T : State, T.heap = H → Stand p l e R s m args below meth c T locs cells slots → ∃ t, Steps p.tables e below ((T.setTop g).pushFrame (.throwing q)) t ∧ Q t
def vx_Run (p : Program) (l : Launch) (e : Env) (R : Room) (s : State) (m : MethodId) (args : Array Value) (below : List Frame) (meth : Method) (c : Code) (H : Heap) (locs : List Loc) (cells slots mc ms : Nat) (g : JFrame) (rest : List Value) (Qa : State → Outcome → State → Prop) (XC : String → State → State → Prop) (free : Addr → Prop) : Prop :=
  ∀ T : State, T.heap = H → Stand p l e R s m args below meth c T locs cells slots →
    (∃ (v : Option Value) (st₀ t T' : State) (L : List Loc), st₀.heap = H ∧ Stand p l e R s m args below meth c T' (locs ++ L) (cells + mc) (slots + ms) ∧ (∀ q ∈ L, free q.base) ∧ T'.heap = t.heap ∧ T'.vm = t.vm ∧ Qa st₀ (.returned v) t ∧
      Goes p e below T g T' { g with pc := g.pc + 3, stack := v.toList ++ rest }) ∨
    (∃ (q : Addr) (st₀ t T' : State) (L : List Loc) (E : String) (ce : Cell), st₀.heap = H ∧ Stand p l e R s m args below meth c T' (locs ++ L) (cells + mc) (slots + ms) ∧ (∀ z ∈ L, free z.base) ∧ T'.heap = t.heap ∧ T'.vm = t.vm ∧ XC E st₀ t ∧ t.heap[q]? = some ce ∧ ce.vm = .none ∧ s.vm.findClass E = some ce.cls ∧
      Steps p.tables e below (T.setTop g) ((T'.setTop { g with stack := rest }).pushFrame (.throwing q)))
def vx_X {S : Type} (px : S → Prop) (B : String → S → State → Prop) (A : Nat → Prop) : String → State → State → Prop := fun E st t => ∃ u : S, px u ∧ B E u t ∧ va_F A st t
section Runs
variable {p : Program} {l : Launch} {e : Env} {R : Room} {s : State} {m : MethodId} {args : Array Value} {below : List Frame} {meth : Method} {c : Code} {H : Heap} {locs : List Loc} {cells slots : Nat}
variable {y : MethodName} {bytes cc : ByteArray} {maxL nL mc ms n index : Nat} {ret : Option FieldType} {ws : List Cond} {rm : Room} {Pc : Array Value → State → Prop} {Qc : Array Value → State → Outcome → State → Prop} {XC : String → State → State → Prop} {free : Addr → Prop} {Ts : List Cond} {own C : String} {b : Addr} {As rest : List Value} {g : JFrame}
theorem vx_callBack (cb : CallB R s args own index y bytes maxL ret ws rm mc ms n) (hM : vx_Met l y ws rm Pc Qc XC mc ms free) (hbl : FrameBlind Pc) : vx_Back l R p e below s args y 3 8 (PreOf R mc ms Pc) (PostOf Qc mc ms free) (vx_Post XC mc ms free) := by
  obtain ⟨hrc, hrs, hfr, hlo, hws, hcw, -, hini, -⟩ := cb
  exact vx_back (bytes := bytes) (maxL := maxL) (ret := ret) hM hbl hrc hrs hfr hlo hws hcw (fun a' U hW => word_at hW (Or.inl (by first | rfl | simp [Cond.onTables, Cond.keeps, Cond.steady])) hini)
theorem vx_runV (S : CallFix p m c cc nL s args Ts own) (hM : vx_Met l y ws rm Pc Qc XC mc ms free) (cw : CallW R s args own C index y bytes maxL ret ws rm mc ms n) (hp : PreV s H C b Pc As)
    (hg : g.method = m) (hn : As.length = n) (hsize : g.locals.size = nL) (hstack : g.stack = As.reverse ++ .ref b :: rest) (hW : 2 * g.monitorRoom + (rest.map fun v => v.category).sum ≤ 8) (hdg : decode cc g.pc = .ok (.invokevirtual index, 3)) (hf : cells + mc ≤ R.cells ∧ slots + ms ≤ R.slots) :
    vx_Run p l e R s m args below meth c H locs cells slots mc ms g rest (Qc (Value.ref b :: As).toArray) XC free := by
  have hK : vx_Back l R p e below s args y 3 8 (PreOf R mc ms Pc) (PostOf Qc mc ms free) (vx_Post XC mc ms free) := vx_callBack cw.1 hM hp.1
  obtain ⟨⟨-, -, -, -, -, -, hcode, -, hy, hlen, hl⟩, hin, hse⟩ := cw
  obtain ⟨hx, hb, hml, ho, -⟩ := S
  obtain ⟨-, ⟨cellB, hcB, hoB, hclB⟩, hPc⟩ := hp
  intro T hT X
  rcases vx_callV X hx (C := C) (bytes := bytes) (maxL := maxL) (ret := ret) ho hl hin hse hcode hy hK (by rw [hT]; exact hcB) hoB hclB hg (hsize.trans hml.symm) (argsL := As) (rest := rest) (fun sig h => hn.trans (hlen sig h)) hstack hW (by rw [hb]; exact hdg)
    (fun vm₁ hW₁ => ⟨hf.1, hf.2, hPc (T.setVm vm₁) hT hW₁⟩) with ⟨v, vm₁, ⟨U', l2, c2, s2⟩, hW₁, X', ⟨g', mk, t, L, e1, e2, hq, h1, hL, h2, h3⟩, st⟩ | ⟨q, vm₁, ⟨U', l2, c2, s2⟩, hW₁, X', ⟨g', mk, t, L, E, ce, e1, e2, hq, hce, hcv, hcl, h1, hL, h2, h3⟩, st⟩
  · dsimp only [Pt.U, Pt.locs, Pt.cells, Pt.slots] at X' e1 e2 h1 h2 h3 st
    subst h1; subst h2; subst h3
    exact Or.inl ⟨v, (T.setVm vm₁).calling g' mk (Value.ref b :: As).toArray, t, U', L, hT, X', hL, e1, e2, hq, st⟩
  · dsimp only [Pt.U, Pt.locs, Pt.cells, Pt.slots] at X' e1 e2 h1 h2 h3 st hcl
    subst h1; subst h2; subst h3
    exact Or.inr ⟨q, (T.setVm vm₁).calling g' mk (Value.ref b :: As).toArray, t, U', L, E, ce, hT, X', hL, e1, e2, hq, hce, hcv, vx_cls hW₁ hcl, st⟩
theorem vx_runS (S : CallFix p m c cc nL s args Ts own) (hM : vx_Met l y ws rm Pc Qc XC mc ms free) (cw : CallB R s args own index y bytes maxL ret ws rm mc ms n ∧ (Cond.static y).before args s = true) (hp : PreS s H Pc As)
    (hg : g.method = m) (hn : As.length = n) (hsize : g.locals.size = nL) (hstack : g.stack = As.reverse ++ rest) (hW : 2 * g.monitorRoom + (rest.map fun v => v.category).sum ≤ 8) (hdg : decode cc g.pc = .ok (.invokestatic index, 3)) (hf : cells + mc ≤ R.cells ∧ slots + ms ≤ R.slots) :
    vx_Run p l e R s m args below meth c H locs cells slots mc ms g rest (Qc As.toArray) XC free := by
  have hK : vx_Back l R p e below s args y 3 8 (PreOf R mc ms Pc) (PostOf Qc mc ms free) (vx_Post XC mc ms free) := vx_callBack cw.1 hM hp.1
  obtain ⟨⟨-, -, -, -, -, -, hcode, hini, hy, hlen, hl⟩, hstt⟩ := cw
  obtain ⟨hx, hb, hml, ho, -⟩ := S
  intro T hT X
  rcases vx_callS X hx (bytes := bytes) (maxL := maxL) (ret := ret) ho hl hstt hini hcode hy hK hg (hsize.trans hml.symm) (argsL := As) (rest := rest) (fun sig h => hn.trans (hlen sig h)) hstack hW (by rw [hb]; exact hdg)
    (fun vm₁ hW₁ => ⟨hf.1, hf.2, hp.2 (T.setVm vm₁) hT hW₁⟩) with ⟨v, vm₁, ⟨U', l2, c2, s2⟩, hW₁, X', ⟨g', mk, t, L, e1, e2, hq, h1, hL, h2, h3⟩, st⟩ | ⟨q, vm₁, ⟨U', l2, c2, s2⟩, hW₁, X', ⟨g', mk, t, L, E, ce, e1, e2, hq, hce, hcv, hcl, h1, hL, h2, h3⟩, st⟩
  · dsimp only [Pt.U, Pt.locs, Pt.cells, Pt.slots] at X' e1 e2 h1 h2 h3 st
    subst h1; subst h2; subst h3
    exact Or.inl ⟨v, (T.setVm vm₁).calling g' mk As.toArray, t, U', L, hT, X', hL, e1, e2, hq, st⟩
  · dsimp only [Pt.U, Pt.locs, Pt.cells, Pt.slots] at X' e1 e2 h1 h2 h3 st hcl
    subst h1; subst h2; subst h3
    exact Or.inr ⟨q, (T.setVm vm₁).calling g' mk As.toArray, t, U', L, E, ce, hT, X', hL, e1, e2, hq, hce, hcv, vx_cls hW₁ hcl, st⟩
end Runs
section Rows
variable {p : Program} {l : Launch} {e : Env} {R : Room} {s : State} {m : MethodId} {args : Array Value} {below : List Frame} {meth : Method} {c : Code} {H : Heap} {locs : List Loc} {cells slots : Nat} {Q : State → Prop}
variable {mc ms : Nat} {free : Addr → Prop} {A0 A1 : Nat → Prop} {H0 : Heap} {a : Array Value} {pc : Nat} {ls : Array Slot} {st0 rest : List Value}
theorem vx_keep {st₀ t T' : State} {L : List Loc} (h0 : st₀.heap = H) (e1 : T'.heap = t.heap) (hS : va_S A0 H0 H locs) (hA : ∀ q, q < H.size → A1 q → A0 q) (hf : ∀ q, free q → A0 q) (hL : ∀ q ∈ L, free q.base) (hF : va_F A1 st₀ t) :
    H.size ≤ T'.heap.size ∧ (∀ q : Nat, q < H.size → ¬ A1 q → T'.heap[q]? = H[q]?) ∧ va_S A0 H0 T'.heap (locs ++ L) := by
  obtain ⟨hz, hk⟩ := hF
  rw [h0] at hz hk
  exact ⟨by rw [e1]; exact hz, fun q h1 h2 => by rw [e1]; exact hk q h1 h2,
    ⟨Nat.le_trans hS.1 (by rw [e1]; exact hz), fun q h1 h2 => by rw [e1, hk q (Nat.lt_of_lt_of_le h1 hS.1) (fun z => h2 (hA q (Nat.lt_of_lt_of_le h1 hS.1) z))]; exact hS.2.1 q h1 h2, fun q hq => by
      rcases List.mem_append.mp hq with h | h
      · exact hS.2.2 q h
      · exact hf _ (hL q h)⟩⟩
theorem vx_calli {S SX : Type} {post : Int32 → S → Prop} {px : SX → Prop} {B : S → State → Prop} {BX : String → SX → State → Prop} {AX : Nat → Prop} (hr : vx_Run p l e R s m args below meth c H locs cells slots mc ms (F0 m pc ls st0) rest (va_Qi post B A1 a) (vx_X px BX AX) free) (hS : va_S A0 H0 H locs) (hA : ∀ q, q < H.size → A1 q → A0 q) (hf : ∀ q, free q → A0 q) (hAX : ∀ q, q < H.size → AX q → A0 q)
    (kx : ∀ (E : String) (ce : Cell) (q9 : Addr) (u : SX) (t : State) (H1 : Heap) (locs1 : List Loc), t.heap = H1 → s.vm.Alike t.vm → px u → BX E u t → H.size ≤ H1.size → (∀ q : Nat, q < H.size → ¬ AX q → H1[q]? = H[q]?) → va_S A0 H0 H1 locs1 → H1[q9]? = some ce → ce.vm = .none → s.vm.findClass E = some ce.cls → vx_W p l e R s m args below meth c H1 locs1 (cells + mc) (slots + ms) Q (F0 m pc ls rest) q9)
    (kk : ∀ (r : Int32) (u : S) (t : State) (H1 : Heap) (locs1 : List Loc), t.heap = H1 → s.vm.Alike t.vm → post r u → B u t → H.size ≤ H1.size → (∀ q : Nat, q < H.size → ¬ A1 q → H1[q]? = H[q]?) → va_S A0 H0 H1 locs1 → W p l e R s m args below meth c H1 locs1 (cells + mc) (slots + ms) Q (F0 m (pc + 3) ls (.int r :: rest))) : W p l e R s m args below meth c H locs cells slots Q (F0 m pc ls st0) := by
  intro T hT X
  rcases hr T hT X with ⟨v, st₀, t, T', L, h0, X', hL, e1, e2, ⟨⟨r, u, hv, hp, hb⟩, hF⟩, st⟩ | ⟨q, st₀, t, T', L, E, ce, h0, X', hL, e1, e2, ⟨u, hp, hb, hF⟩, hce, hcv, hcl, st⟩
  · cases hv
    obtain ⟨k1, k2, k3⟩ := vx_keep h0 e1 hS hA hf hL hF
    obtain ⟨t2, a1, b1⟩ := kk r u t T'.heap (locs ++ L) e1.symm (by rw [← e2]; exact X'.warmed.alike) hp hb k1 k2 k3 T' rfl X'
    exact ⟨t2, st t2 a1, b1⟩
  · obtain ⟨k1, k2, k3⟩ := vx_keep h0 e1 hS hAX hf hL hF
    obtain ⟨t2, a1, b1⟩ := kx E ce q u t T'.heap (locs ++ L) e1.symm (by rw [← e2]; exact X'.warmed.alike) hp hb k1 k2 k3 (by rw [e1]; exact hce) hcv hcl T' rfl X'
    exact ⟨t2, st.trans a1, b1⟩
theorem vx_calll {S SX : Type} {post : Int64 → S → Prop} {px : SX → Prop} {B : S → State → Prop} {BX : String → SX → State → Prop} {AX : Nat → Prop} (hr : vx_Run p l e R s m args below meth c H locs cells slots mc ms (F0 m pc ls st0) rest (va_Ql post B A1 a) (vx_X px BX AX) free) (hS : va_S A0 H0 H locs) (hA : ∀ q, q < H.size → A1 q → A0 q) (hf : ∀ q, free q → A0 q) (hAX : ∀ q, q < H.size → AX q → A0 q)
    (kx : ∀ (E : String) (ce : Cell) (q9 : Addr) (u : SX) (t : State) (H1 : Heap) (locs1 : List Loc), t.heap = H1 → s.vm.Alike t.vm → px u → BX E u t → H.size ≤ H1.size → (∀ q : Nat, q < H.size → ¬ AX q → H1[q]? = H[q]?) → va_S A0 H0 H1 locs1 → H1[q9]? = some ce → ce.vm = .none → s.vm.findClass E = some ce.cls → vx_W p l e R s m args below meth c H1 locs1 (cells + mc) (slots + ms) Q (F0 m pc ls rest) q9)
    (kk : ∀ (r : Int64) (u : S) (t : State) (H1 : Heap) (locs1 : List Loc), t.heap = H1 → s.vm.Alike t.vm → post r u → B u t → H.size ≤ H1.size → (∀ q : Nat, q < H.size → ¬ A1 q → H1[q]? = H[q]?) → va_S A0 H0 H1 locs1 → W p l e R s m args below meth c H1 locs1 (cells + mc) (slots + ms) Q (F0 m (pc + 3) ls (.long r :: rest))) : W p l e R s m args below meth c H locs cells slots Q (F0 m pc ls st0) := by
  intro T hT X
  rcases hr T hT X with ⟨v, st₀, t, T', L, h0, X', hL, e1, e2, ⟨⟨r, u, hv, hp, hb⟩, hF⟩, st⟩ | ⟨q, st₀, t, T', L, E, ce, h0, X', hL, e1, e2, ⟨u, hp, hb, hF⟩, hce, hcv, hcl, st⟩
  · cases hv
    obtain ⟨k1, k2, k3⟩ := vx_keep h0 e1 hS hA hf hL hF
    obtain ⟨t2, a1, b1⟩ := kk r u t T'.heap (locs ++ L) e1.symm (by rw [← e2]; exact X'.warmed.alike) hp hb k1 k2 k3 T' rfl X'
    exact ⟨t2, st t2 a1, b1⟩
  · obtain ⟨k1, k2, k3⟩ := vx_keep h0 e1 hS hAX hf hL hF
    obtain ⟨t2, a1, b1⟩ := kx E ce q u t T'.heap (locs ++ L) e1.symm (by rw [← e2]; exact X'.warmed.alike) hp hb k1 k2 k3 (by rw [e1]; exact hce) hcv hcl T' rfl X'
    exact ⟨t2, st.trans a1, b1⟩
theorem vx_callf {S SX : Type} {post : UInt32 → S → Prop} {px : SX → Prop} {B : S → State → Prop} {BX : String → SX → State → Prop} {AX : Nat → Prop} (hr : vx_Run p l e R s m args below meth c H locs cells slots mc ms (F0 m pc ls st0) rest (va_Qf post B A1 a) (vx_X px BX AX) free) (hS : va_S A0 H0 H locs) (hA : ∀ q, q < H.size → A1 q → A0 q) (hf : ∀ q, free q → A0 q) (hAX : ∀ q, q < H.size → AX q → A0 q)
    (kx : ∀ (E : String) (ce : Cell) (q9 : Addr) (u : SX) (t : State) (H1 : Heap) (locs1 : List Loc), t.heap = H1 → s.vm.Alike t.vm → px u → BX E u t → H.size ≤ H1.size → (∀ q : Nat, q < H.size → ¬ AX q → H1[q]? = H[q]?) → va_S A0 H0 H1 locs1 → H1[q9]? = some ce → ce.vm = .none → s.vm.findClass E = some ce.cls → vx_W p l e R s m args below meth c H1 locs1 (cells + mc) (slots + ms) Q (F0 m pc ls rest) q9)
    (kk : ∀ (r : UInt32) (u : S) (t : State) (H1 : Heap) (locs1 : List Loc), t.heap = H1 → s.vm.Alike t.vm → post r u → B u t → H.size ≤ H1.size → (∀ q : Nat, q < H.size → ¬ A1 q → H1[q]? = H[q]?) → va_S A0 H0 H1 locs1 → W p l e R s m args below meth c H1 locs1 (cells + mc) (slots + ms) Q (F0 m (pc + 3) ls (.float r :: rest))) : W p l e R s m args below meth c H locs cells slots Q (F0 m pc ls st0) := by
  intro T hT X
  rcases hr T hT X with ⟨v, st₀, t, T', L, h0, X', hL, e1, e2, ⟨⟨r, u, hv, hp, hb⟩, hF⟩, st⟩ | ⟨q, st₀, t, T', L, E, ce, h0, X', hL, e1, e2, ⟨u, hp, hb, hF⟩, hce, hcv, hcl, st⟩
  · cases hv
    obtain ⟨k1, k2, k3⟩ := vx_keep h0 e1 hS hA hf hL hF
    obtain ⟨t2, a1, b1⟩ := kk r u t T'.heap (locs ++ L) e1.symm (by rw [← e2]; exact X'.warmed.alike) hp hb k1 k2 k3 T' rfl X'
    exact ⟨t2, st t2 a1, b1⟩
  · obtain ⟨k1, k2, k3⟩ := vx_keep h0 e1 hS hAX hf hL hF
    obtain ⟨t2, a1, b1⟩ := kx E ce q u t T'.heap (locs ++ L) e1.symm (by rw [← e2]; exact X'.warmed.alike) hp hb k1 k2 k3 (by rw [e1]; exact hce) hcv hcl T' rfl X'
    exact ⟨t2, st.trans a1, b1⟩
theorem vx_calld {S SX : Type} {post : UInt64 → S → Prop} {px : SX → Prop} {B : S → State → Prop} {BX : String → SX → State → Prop} {AX : Nat → Prop} (hr : vx_Run p l e R s m args below meth c H locs cells slots mc ms (F0 m pc ls st0) rest (va_Qd post B A1 a) (vx_X px BX AX) free) (hS : va_S A0 H0 H locs) (hA : ∀ q, q < H.size → A1 q → A0 q) (hf : ∀ q, free q → A0 q) (hAX : ∀ q, q < H.size → AX q → A0 q)
    (kx : ∀ (E : String) (ce : Cell) (q9 : Addr) (u : SX) (t : State) (H1 : Heap) (locs1 : List Loc), t.heap = H1 → s.vm.Alike t.vm → px u → BX E u t → H.size ≤ H1.size → (∀ q : Nat, q < H.size → ¬ AX q → H1[q]? = H[q]?) → va_S A0 H0 H1 locs1 → H1[q9]? = some ce → ce.vm = .none → s.vm.findClass E = some ce.cls → vx_W p l e R s m args below meth c H1 locs1 (cells + mc) (slots + ms) Q (F0 m pc ls rest) q9)
    (kk : ∀ (r : UInt64) (u : S) (t : State) (H1 : Heap) (locs1 : List Loc), t.heap = H1 → s.vm.Alike t.vm → post r u → B u t → H.size ≤ H1.size → (∀ q : Nat, q < H.size → ¬ A1 q → H1[q]? = H[q]?) → va_S A0 H0 H1 locs1 → W p l e R s m args below meth c H1 locs1 (cells + mc) (slots + ms) Q (F0 m (pc + 3) ls (.double r :: rest))) : W p l e R s m args below meth c H locs cells slots Q (F0 m pc ls st0) := by
  intro T hT X
  rcases hr T hT X with ⟨v, st₀, t, T', L, h0, X', hL, e1, e2, ⟨⟨r, u, hv, hp, hb⟩, hF⟩, st⟩ | ⟨q, st₀, t, T', L, E, ce, h0, X', hL, e1, e2, ⟨u, hp, hb, hF⟩, hce, hcv, hcl, st⟩
  · cases hv
    obtain ⟨k1, k2, k3⟩ := vx_keep h0 e1 hS hA hf hL hF
    obtain ⟨t2, a1, b1⟩ := kk r u t T'.heap (locs ++ L) e1.symm (by rw [← e2]; exact X'.warmed.alike) hp hb k1 k2 k3 T' rfl X'
    exact ⟨t2, st t2 a1, b1⟩
  · obtain ⟨k1, k2, k3⟩ := vx_keep h0 e1 hS hAX hf hL hF
    obtain ⟨t2, a1, b1⟩ := kx E ce q u t T'.heap (locs ++ L) e1.symm (by rw [← e2]; exact X'.warmed.alike) hp hb k1 k2 k3 (by rw [e1]; exact hce) hcv hcl T' rfl X'
    exact ⟨t2, st.trans a1, b1⟩
theorem vx_callv {S SX : Type} {post : S → Prop} {px : SX → Prop} {B : S → State → Prop} {BX : String → SX → State → Prop} {AX : Nat → Prop} (hr : vx_Run p l e R s m args below meth c H locs cells slots mc ms (F0 m pc ls st0) rest (va_Qv post B A1 a) (vx_X px BX AX) free) (hS : va_S A0 H0 H locs) (hA : ∀ q, q < H.size → A1 q → A0 q) (hf : ∀ q, free q → A0 q) (hAX : ∀ q, q < H.size → AX q → A0 q)
    (kx : ∀ (E : String) (ce : Cell) (q9 : Addr) (u : SX) (t : State) (H1 : Heap) (locs1 : List Loc), t.heap = H1 → s.vm.Alike t.vm → px u → BX E u t → H.size ≤ H1.size → (∀ q : Nat, q < H.size → ¬ AX q → H1[q]? = H[q]?) → va_S A0 H0 H1 locs1 → H1[q9]? = some ce → ce.vm = .none → s.vm.findClass E = some ce.cls → vx_W p l e R s m args below meth c H1 locs1 (cells + mc) (slots + ms) Q (F0 m pc ls rest) q9)
    (kk : ∀ (u : S) (t : State) (H1 : Heap) (locs1 : List Loc), t.heap = H1 → s.vm.Alike t.vm → post u → B u t → H.size ≤ H1.size → (∀ q : Nat, q < H.size → ¬ A1 q → H1[q]? = H[q]?) → va_S A0 H0 H1 locs1 → W p l e R s m args below meth c H1 locs1 (cells + mc) (slots + ms) Q (F0 m (pc + 3) ls (rest))) : W p l e R s m args below meth c H locs cells slots Q (F0 m pc ls st0) := by
  intro T hT X
  rcases hr T hT X with ⟨v, st₀, t, T', L, h0, X', hL, e1, e2, ⟨⟨u, hv, hp, hb⟩, hF⟩, st⟩ | ⟨q, st₀, t, T', L, E, ce, h0, X', hL, e1, e2, ⟨u, hp, hb, hF⟩, hce, hcv, hcl, st⟩
  · cases hv
    obtain ⟨k1, k2, k3⟩ := vx_keep h0 e1 hS hA hf hL hF
    obtain ⟨t2, a1, b1⟩ := kk u t T'.heap (locs ++ L) e1.symm (by rw [← e2]; exact X'.warmed.alike) hp hb k1 k2 k3 T' rfl X'
    exact ⟨t2, st t2 a1, b1⟩
  · obtain ⟨k1, k2, k3⟩ := vx_keep h0 e1 hS hAX hf hL hF
    obtain ⟨t2, a1, b1⟩ := kx E ce q u t T'.heap (locs ++ L) e1.symm (by rw [← e2]; exact X'.warmed.alike) hp hb k1 k2 k3 (by rw [e1]; exact hce) hcv hcl T' rfl X'
    exact ⟨t2, st.trans a1, b1⟩
end Rows
section Ends
variable {p : Program} {l : Launch} {e : Env} {R : Room} {s : State} {m : MethodId} {args : Array Value} {below : List Frame} {meth : Method} {c : Code} {H : Heap} {locs : List Loc} {cells slots : Nat} {Q : State → Prop}
variable {mc ms : Nat} {free : Addr → Prop} {A0 A1 : Nat → Prop} {H0 : Heap} {a : Array Value} {ls : Array Slot} {st0 rest : List Value}
variable {Qc : Array Value → State → Outcome → State → Prop} {XC : String → State → State → Prop}
/-- what a body that may throw owes at its end -/
def vx_MQ (below : List Frame) (Qc : Array Value → State → Outcome → State → Prop) (XC : String → State → State → Prop) (a : Array Value) (s : State) (mc ms : Nat) (free : Addr → Prop) : State → Prop := fun t =>
  ∃ o, t.status = .running ∧ Ended t below o ∧ vx_Q Qc XC mc ms free a s o t
theorem vx_ret {g : JFrame} {mc ms : Nat} (k : W p l e R s m args below meth c H locs cells slots (MQ below Qc args s mc ms free) g) : W p l e R s m args below meth c H locs cells slots (vx_MQ below Qc XC args s mc ms free) g := by
  intro T hT X
  obtain ⟨t, a1, o, b1, b2, b3, b4⟩ := k T hT X
  exact ⟨t, a1, o, b1, b2, Or.inl ⟨b3, b4⟩⟩
/-- not caught here: it goes on to the caller -/
theorem vx_widen {g : JFrame} {q : Addr} {k n : Nat} (h1 : cells ≤ k) (h2 : slots ≤ n) (kk : vx_W p l e R s m args below meth c H locs k n Q g q) : vx_W p l e R s m args below meth c H locs cells slots Q g q := fun T hT X => kk T hT (stand_widen X h1 h2)
theorem vx_out {pc : Nat} {E : String} {ce : Cell} {q : Addr} {mc ms : Nat} (hout : ∀ x ∈ c.exceptionTable.toList, covers x pc = false) (hlocks : meth.locks = false) (hcell : H[q]? = some ce) (hv : ce.vm = .none) (hcl : s.vm.findClass E = some ce.cls)
    (hx : ∀ t : State, t.heap = H → s.vm.Alike t.vm → XC E s t) (hf : ∀ z ∈ locs, free z.base) (hc : cells ≤ mc) (hs : slots ≤ ms) :
    vx_W p l e R s m args below meth c H locs cells slots (vx_MQ below Qc XC args s mc ms free) (F0 m pc ls rest) q := by
  intro T hT X
  obtain ⟨st1, hrun, hend, hW, hsm⟩ := X.leaveThrown q (g := F0 m pc ls rest) rfl rfl rfl hout hlocks
  have hcell9 : (T.setFrames (.throwing q :: below)).heap[q]? = some ce := by
    show T.heap[q]? = some ce
    rw [hT]; exact hcell
  exact ⟨_, st1, .threw q, hrun, hend, Or.inr ⟨q, rfl, E, ce, locs, hx _ hT hW.alike, hcell9, hv, hcl, hW, hsm.mono hc hs, hf⟩⟩
theorem vx_frame {U : State} {k n : Nat} (h : s.sameButNew ({ U with vm := s.vm } : State) locs k n) : s.heap.size ≤ U.heap.size ∧ ∀ q : Nat, q < s.heap.size → (∀ z ∈ locs, z.base ≠ q) → U.heap[q]? = s.heap[q]? := by
  obtain ⟨-, h2, -, -, -, h6⟩ := h
  refine ⟨h2, fun q hq hz => ?_⟩
  obtain ⟨c9, e1, e2, e3, e4⟩ := h6 q _ (Array.getElem?_eq_getElem hq)
  have hs : c9.slots = (s.heap[q]).slots := Array.ext_getElem? fun i => e4 i fun hm => hz _ hm rfl
  have h9 : c9 = s.heap[q] := by
    rw [hs] at e2
    exact e2
  have e5 : U.heap[q]? = some c9 := e1
  rw [e5, h9, Array.getElem?_eq_getElem hq]
/-- the words of a throw but the four that speak of the heap -/
def vx_no (w : Cond) : Bool := decide (w ≠ .isRef (.static Bundle.tN "UNASSIGNED_STACK" Bundle.steD)) && decide (w ≠ .isRef (.static Bundle.tN "SUPPRESSED_SENTINEL" Bundle.listD)) && decide (w ≠ .laysStatic Bundle.tN "UNASSIGNED_STACK" Bundle.steD) && decide (w ≠ .laysStatic Bundle.tN "SUPPRESSED_SENTINEL" Bundle.listD)
def vx_at0 (own : String) (ic : Nat) (X : String) (names : List String) : List Cond := (Bundle.ownAtoms0 own ic X names).filter vx_no
def vx_atS (own : String) (ic : Nat) (X : String) (names : List String) : List Cond := (Bundle.ownAtoms own ic X names).filter vx_no
/-- a word that the tables alone decide, or a good one -/
def vx_ot (w : Cond) : Bool := w.onTables || goodWord w
theorem vx_ot_at {args a' : Array Value} {s U : State} {w : Cond} (hW : s.WarmedH U.vm) (hvm : s.vm = U.vm) (hg : vx_ot w = true) (h : w.before args s = true) : w.before a' U = true := by
  simp only [vx_ot, Bool.or_eq_true] at hg
  rcases hg with hg | hg
  · exact va_tabs hg hvm h
  · exact word_at hW (good_of_word hg) h
/-- a list's words: the good ones out of the method's own list, the others by premises of their own -/
theorem vx_hat {args : Array Value} {s : State} {L B : List Cond} (h1 : ∀ w ∈ L.filter goodWord, w.before args s = true) (h2 : ∀ w ∈ L.filter (fun w => !goodWord w), w ∈ B) (h3 : ∀ w ∈ B, w.before args s = true) : ∀ w ∈ L, w.before args s = true := by
  intro w hw
  by_cases g : goodWord w = true
  · exact h1 w (List.mem_filter.mpr ⟨hw, g⟩)
  · refine h3 w (h2 w (List.mem_filter.mpr ⟨hw, ?_⟩))
    show (!goodWord w) = true
    cases hgw : goodWord w
    · rfl
    · exact absurd hgw g
theorem vx_c {args : Array Value} {s : State} {w : Cond} {B : List Cond} (h : w.before args s = true) (t : ∀ w ∈ B, w.before args s = true) : ∀ w' ∈ w :: B, w'.before args s = true := fun w' h' => (List.mem_cons.mp h').elim (fun e => by rw [e]; exact h) (t w')
theorem vx_n {args : Array Value} {s : State} : ∀ w ∈ ([] : List Cond), w.before args s = true := fun _ h => nomatch h
theorem vx_own {args : Array Value} {s : State} {L : List Cond} (h1 : ∀ w ∈ L.filter vx_no, w.before args s = true)
    (hU : (Cond.isRef (.static Bundle.tN "UNASSIGNED_STACK" Bundle.steD)).before args s = true) (hN : (Cond.isRef (.static Bundle.tN "SUPPRESSED_SENTINEL" Bundle.listD)).before args s = true)
    (lU : (Cond.laysStatic Bundle.tN "UNASSIGNED_STACK" Bundle.steD).before args s = true) (lN : (Cond.laysStatic Bundle.tN "SUPPRESSED_SENTINEL" Bundle.listD).before args s = true) : ∀ w ∈ L, w.before args s = true := by
  intro w hw
  by_cases e1 : w = .isRef (.static Bundle.tN "UNASSIGNED_STACK" Bundle.steD)
  · rw [e1]; exact hU
  · by_cases e2 : w = .isRef (.static Bundle.tN "SUPPRESSED_SENTINEL" Bundle.listD)
    · rw [e2]; exact hN
    · by_cases e3 : w = .laysStatic Bundle.tN "UNASSIGNED_STACK" Bundle.steD
      · rw [e3]; exact lU
      · by_cases e4 : w = .laysStatic Bundle.tN "SUPPRESSED_SENTINEL" Bundle.listD
        · rw [e4]; exact lN
        · exact h1 w (List.mem_filter.mpr ⟨hw, by unfold vx_no; rw [decide_eq_true e1, decide_eq_true e2, decide_eq_true e3, decide_eq_true e4]; rfl⟩)
/-- where a static field lies, its class's statics cell in H -/
def vx_L (C n d : String) (A : Nat → Prop) (U : State) (H : Heap) : Prop := ∃ (c : ClassId) (k : Class) (i : Nat) (f : Field) (a : Nat) (cell : Cell), U.vm.findClass C = some c ∧ U.fieldFound? C n d = some (c, k, i, f) ∧ f.isStatic = true ∧ k.statics = some a ∧ H[a]? = some cell ∧ cell.vm.isStatics = true ∧ cell.cls = c ∧ f.slot < cell.slots.size ∧ k.staticTypes[f.slot]? = some f.type ∧ ¬ A a
theorem vx_L.moved {C n d : String} {A : Nat → Prop} {u U : State} {H : Heap} (hvm : u.vm.Alike U.vm) (h : vx_L C n d A u H) : vx_L C n d A U H := by
  obtain ⟨c, k, i, f, a, cell, h1, h2, h3, h4, h5, h6, h7, h8, h9, h10⟩ := h
  obtain ⟨k', hi', he⟩ := State.fieldFound?_setVm hvm h2
  exact ⟨c, k', i, f, a, cell, by rw [hvm.findClass]; exact h1, hi', h3, by rw [he]; exact h4, h5, h6, h7, h8, by rw [he]; exact h9, h10⟩
theorem vx_L.kept {C n d : String} {A : Nat → Prop} {U : State} {H H1 : Heap} (h : vx_L C n d A U H) (hq : ∀ a : Nat, a < H.size → ¬ A a → H1[a]? = H[a]?) : vx_L C n d A U H1 := by
  obtain ⟨c, k, i, f, a, cell, h1, h2, h3, h4, h5, h6, h7, h8, h9, h10⟩ := h
  exact ⟨c, k, i, f, a, cell, h1, h2, h3, h4, by rw [hq a (Array.getElem?_eq_some_iff.mp h5).1 h10]; exact h5, h6, h7, h8, h9, h10⟩
theorem vx_L.narrow {C n d : String} {A B : Nat → Prop} {U : State} {H : Heap} (h : vx_L C n d A U H) (hAB : ∀ q, B q → A q) : vx_L C n d B U H := by
  obtain ⟨c, k, i, f, a, cell, h1, h2, h3, h4, h5, h6, h7, h8, h9, h10⟩ := h
  exact ⟨c, k, i, f, a, cell, h1, h2, h3, h4, h5, h6, h7, h8, h9, fun z => h10 (hAB _ z)⟩
theorem vx_L.word {C n d : String} {A : Nat → Prop} {s : State} {args : Array Value} (h : vx_L C n d A s s.heap) : (Cond.laysStatic C n d).before args s = true := by
  obtain ⟨c, k, i, f, a, cell, h1, h2, h3, h4, h5, h6, h7, h8, h9, -⟩ := h
  show (Cond.laysStatic C n d).holds args s none s [] = true
  exact Cond.laysStatic_of h1 h2 h3 h4 h5 h6 h7 h8 h9
/-- .. and what it holds: null or some reference -/
def vx_Zq (C n d : String) (A : Nat → Prop) (U : State) (H : Heap) : Prop := va_Zq C n d A U H ∧ vx_L C n d A U H
theorem vx_Zq.moved {C n d : String} {A : Nat → Prop} {u U : State} {H : Heap} (hvm : u.vm.Alike U.vm) (h : vx_Zq C n d A u H) : vx_Zq C n d A U H := ⟨va_Zq.moved hvm h.1, vx_L.moved hvm h.2⟩
theorem vx_Zq.kept {C n d : String} {A : Nat → Prop} {U : State} {H H1 : Heap} (h : vx_Zq C n d A U H) (hq : ∀ a : Nat, a < H.size → ¬ A a → H1[a]? = H[a]?) : vx_Zq C n d A U H1 := ⟨va_Zq.kept h.1 hq, vx_L.kept h.2 hq⟩
theorem vx_Zq.narrow {C n d : String} {A B : Nat → Prop} {U : State} {H : Heap} (h : vx_Zq C n d A U H) (hAB : ∀ q, B q → A q) : vx_Zq C n d B U H := ⟨va_Zq.narrow h.1 hAB, vx_L.narrow h.2 hAB⟩
theorem vx_Zqof {args : Array Value} {s : State} {C n d : String} {A : Nat → Prop} (hl : (Cond.laysStatic C n d).before args s = true) (hini : (Cond.initialized C).before args s = true) (h : (Cond.isRef (.static C n d)).before args s = true) (hA : ∀ a : Nat, a < s.heap.size → ¬ A a) : vx_Zq C n d A s s.heap := by
  refine ⟨va_Zqof hl hini h hA, ?_⟩
  obtain ⟨c, k, i, f, a, cell, h1, h2, h3, h4, h5, h6, h7, h8, h9⟩ := Cond.laysStatic_spec hl
  exact ⟨c, k, i, f, a, cell, h1, h2, h3, h4, h5, h6, h7, h8, h9, hA a (Array.getElem?_eq_some_iff.mp h5).1⟩
theorem vx_isRef {C n d : String} {v : Value} {A : Nat → Prop} {s : State} {args : Array Value} (h : va_Z C n d v A s s.heap) (hv : v.isRef = true) : (Cond.isRef (.static C n d)).before args s = true := by
  obtain ⟨cf, kf, fi, f, a, cell, h1, h2, h3, h4, h5, h6, h7, -⟩ := h
  have he : (Term.static C n d).eval args s none [] s = some v := by
    simp [Term.eval, State.fieldNamed?, h1, h2, h4, h5, h6, h7]
  simp only [Cond.before, Cond.holds, Cond.value, he]
  cases v <;> simp_all [Value.isRef]
theorem vx_isRefq {C n d : String} {A : Nat → Prop} {s : State} {args : Array Value} (h : va_Zq C n d A s s.heap) : (Cond.isRef (.static C n d)).before args s = true := by
  rcases h with h | ⟨t, h⟩
  · exact vx_isRef h rfl
  · exact vx_isRef h rfl
/-- the same frame, seen from here: as if the method were called anew in this heap -/
theorem vx_rebase {T : State} (X : Stand p l e R s m args below meth c T locs cells slots) {R' : Room} (hf : R'.frames ≤ R.frames) (hl : R'.locals ≤ R.locals) (hc : cells + R'.cells ≤ R.cells) (hs : slots + R'.slots ≤ R.slots) :
    Stand p l e R' ((T.setVm s.vm).setFrames (.invoking m args :: below)) m args below meth c T [] 0 0 := by
  have htop : (T.setVm s.vm).topJava?.isSome := X.here.top
  have hF : ((T.setVm s.vm).setFrames (.invoking m args :: below)).frames = .invoking m args :: below := State.frames_setFrames _ (State.cur_lt_of_top htop)
  obtain ⟨g₀, hg0⟩ := Option.isSome_iff_exists.mp htop
  obtain ⟨r, hr⟩ := State.topJava?_eq_some.mp hg0
  have hl9 : e.platform.stackLimits (T.setVm s.vm).me = e.platform.stackLimits s.me := X.limits
  have hb9 : (T.setVm s.vm).me.stackBytes = s.me.stackBytes := X.bytes
  refine ⟨X.admits, X.cas, X.clock, hF, ?_, X.hears, X.method, X.code, X.here, X.tail, X.warmed, ?_, ?_, ?_⟩
  · have h := X.room
    have hU : ((T.setVm s.vm).setFrames (.invoking m args :: below)).localsInUse = s.localsInUse := by
      rw [State.localsInUse_invoking hF (meth := meth) (c := c) X.method X.code, State.localsInUse_invoking X.frames X.method X.code]
    simp only [State.hasRoom, Bool.and_eq_true, decide_eq_true_eq] at h ⊢
    obtain ⟨⟨⟨⟨h1, h2, h3, h4, h5, h6⟩, h7⟩, h8⟩, h9⟩ := h
    rw [X.frames, List.length_cons] at h2 h3
    have q1 := X.heapSize
    have q2 := X.used
    simp only [hF, hU, List.length_cons, State.stackLimits_setFrames, State.stackBytes_setFrames, hl9, hb9]
    refine ⟨⟨⟨⟨by omega, by omega, by omega, by omega, by omega, h6⟩, ?_⟩, ?_⟩, X.book⟩
    · show T.heap.size + R'.cells ≤ e.platform.maxCells
      omega
    · show T.slotsUsed + R'.slots ≤ e.platform.maxSlots
      omega
  · rw [State.stackLimits_setFrames]; rfl
  · rw [State.stackBytes_setFrames]; rfl
  · refine ⟨?_, Nat.le_refl _, Nat.le_refl _, ?_, ?_, fun a c9 h9 => ⟨c9, h9, rfl, rfl, fun _ _ => rfl⟩⟩
    · obtain ⟨t, ht, -⟩ := State.frames_cons hr
      show T.setVm s.vm = { ((T.setVm s.vm).setFrames (.invoking m args :: below)).setFrames (T.setVm s.vm).frames with heap := T.heap, slotsUsed := T.slotsUsed }
      rw [State.setFrames_setFrames, State.setFrames_self ht]
      rfl
    · show T.slotsUsed = T.slotsUsed + ((T.heap.toList.drop T.heap.size).map (·.slots.size)).sum
      rw [List.drop_eq_nil_of_le (Nat.le_of_eq Array.length_toList)]
      rfl
    · show ((T.heap.toList.drop T.heap.size).map (·.slots.size)).sum ≤ 0
      rw [List.drop_eq_nil_of_le (Nat.le_of_eq Array.length_toList)]
      exact Nat.le_refl _
/-- 'throw new E()': new; dup; invokespecial; athrow -/
theorem vx_throw0 {cc : ByteArray} {pc : Nat} (hexec : p.tables.exec = Jvm.exec) (hb : c.code = cc) (hl : l.stackTraces = false) {own cls : String} {names : List String} {ik ic mc ms : Nat} {A : Nat → Prop}
    (hown : s.vm.findClass own = some m.cls) (hcls : Bundle.fit cls = true) (hnames : ∀ n ∈ names, Bundle.fit n = true)
    (hk : (Cond.classLink own ik cls).before args s = true) (hini : (Cond.initialized cls).before args s = true) (hat : ∀ w ∈ vx_at0 own ic cls names, w.before args s = true)
    (hgood : ∀ w ∈ Cond.classLink own ik cls :: Cond.initialized cls :: vx_at0 own ic cls names, vx_ot w = true)
    (hU : vx_Zq Bundle.tN "UNASSIGNED_STACK" Bundle.steD A s s.heap) (hN : vx_Zq Bundle.tN "SUPPRESSED_SENTINEL" Bundle.listD A s s.heap) (hS : va_S A s.heap H locs) (hsize : ls.size = c.maxLocals)
    (d0 : decode cc pc = .ok (.new ik, 3)) (d3 : decode cc (pc + 3) = .ok (.dup, 1)) (d4 : decode cc (pc + 4) = .ok (.invokespecial ic, 3)) (d7 : decode cc (pc + 7) = .ok (.athrow, 1))
    (hout : ∀ x ∈ c.exceptionTable.toList, covers x (pc + 7) = false)
    (hRframes : names.length + 3 < R.frames) (hRlocals : (rest.map fun v => v.category).sum + (13 * (names.length + 1) + 42) ≤ R.locals) (hRcells : cells + 1 ≤ R.cells) (hRslots : slots + 6 ≤ R.slots) (hlocks : meth.locks = false)
    (hx : ∀ t : State, s.vm.Alike t.vm → H.size ≤ t.heap.size → (∀ q : Nat, q < H.size → t.heap[q]? = H[q]?) → XC cls s t)
    (hf : ∀ z ∈ locs, free z.base) (hc : cells + 1 ≤ mc) (hs : slots + 6 ≤ ms) :
    W p l e R s m args below meth c H locs cells slots (vx_MQ below Qc XC args s mc ms free) (F0 m pc ls rest) := by
  intro T hT X
  have htr : e.platform.stackTraces = false := (show e.platform.stackTraces = l.stackTraces by rw [X.admits.platform]).trans hl
  have Y := vx_rebase X (R' := { frames := R.frames, locals := R.locals, cells := 1, slots := 6 }) (Nat.le_refl _) (Nat.le_refl _) hRcells hRslots
  obtain ⟨s', hA⟩ : ∃ z, z = (T.setVm s.vm).setFrames (.invoking m args :: below) := ⟨_, rfl⟩
  rw [← hA] at Y
  have hvm : s'.vm = s.vm := by rw [hA]; rfl
  have hhp : s'.heap = H := by rw [hA]; exact hT
  have hW0 : s.WarmedH s'.vm := by rw [hvm]; exact State.WarmedH.refl s
  have hat' : ∀ w ∈ vx_at0 own ic cls names, w.before args s' = true := fun w hw => vx_ot_at hW0 hvm.symm (hgood w (List.mem_cons_of_mem _ (List.mem_cons_of_mem _ hw))) (hat w hw)
  have hk' : (Cond.classLink own ik cls).before args s' = true := vx_ot_at hW0 hvm.symm (hgood _ List.mem_cons_self) hk
  have hini' : (Cond.initialized cls).before args s' = true := vx_ot_at hW0 hvm.symm (hgood _ (List.mem_cons_of_mem _ List.mem_cons_self)) hini
  have hU' : vx_Zq Bundle.tN "UNASSIGNED_STACK" Bundle.steD A s' s'.heap := by rw [hhp]; exact vx_Zq.moved hW0.alike (hU.kept hS.2.1)
  have hN' : vx_Zq Bundle.tN "SUPPRESSED_SENTINEL" Bundle.listD A s' s'.heap := by rw [hhp]; exact vx_Zq.moved hW0.alike (hN.kept hS.2.1)
  have h : ∀ w ∈ Bundle.ownAtoms0 own ic cls names, w.before args s' = true := vx_own hat' (vx_isRefq hU'.1) (vx_isRefq hN'.1) hU'.2.word hN'.2.word
  have hown' : s'.vm.findClass own = some m.cls := by rw [hvm]; exact hown
  have hins : (Cond.instantiable cls 6).before args s' = true := h _ (by simp [Bundle.ownAtoms0])
  obtain ⟨vm₁, cX, kX, hfX, hkX, -, -, X₁, st1⟩ := Y.newCold hexec (own := own) (C := cls) (index := ik) (n := 6) hown' hk' hins hini'
    (g := F0 m pc ls rest) rfl (by rw [hb]; exact d0) (Nat.le_refl _) (Nat.le_refl _)
  generalize hT1 : (T.setVm vm₁).pushCell { cls := cX, slots := kX.instanceTypes.map defaultValue, vm := .none } = T1 at X₁ st1
  have hcat : (Value.ref T.heap.size).category = 1 := rfl
  have hcellA : T1.heap[T.heap.size]? = some (freshCell cX kX) := by rw [← hT1]; exact State.heap_pushCell_size _ _
  have d3' : decode c.code (pc + 3) = .ok (.dup, 1) := by rw [hb]; exact d3
  obtain ⟨U, hsteps, hrun, hend, hW, hsame, ce, hce, hO⟩ := X₁.ctorThrow0 hexec htr (own := own) (cls := cls) (names := names) (ic := ic) hown' hcls hnames h (fun x hx => nomatch hx) hfX hkX hcellA (by rw [hhp, hT]; exact Nat.le_refl _)
    (g := { method := m, pc := pc + 4, locals := ls, stack := .ref T.heap.size :: .ref T.heap.size :: rest, locked := none }) rfl hsize rfl rfl (rest := rest) rfl
    (by rw [hb]; exact d4) (by rw [hb]; exact d7) hout hRframes (by simp only [List.map_cons, List.sum_cons, hcat]; omega) hlocks
  obtain ⟨f1, f2⟩ := vx_frame hsame
  rw [hhp] at f1 f2
  have hWs : s.WarmedH U.vm := State.WarmedH.trans hW0 hW
  have hcl : s.vm.findClass cls = some ce.cls := by
    have h9 := hO.cls
    rw [hvm] at h9
    exact h9
  have hall : s.sameButNew ({ U with vm := s.vm } : State) locs mc ms := by
    subst hA
    obtain ⟨e1, e2⟩ := hsame
    rw [State.setFrames_setFrames] at e1
    have h2 : (T.setVm s.vm).sameButNew ({ U with vm := s.vm } : State) [] (0 + 1) (0 + 6) := ⟨e1, e2⟩
    have h3 := X.same.trans h2
    rw [List.append_nil] at h3
    exact h3.mono hc hs
  refine ⟨U, ?_, .threw T.heap.size, hrun, hend, Or.inr ⟨T.heap.size, rfl, cls, ce, locs, hx U hWs.alike f1 (fun q hq => f2 q hq (fun z hz => nomatch hz)), hce, hO.vm, hcl, hWs, hall, hf⟩⟩
  refine st1 _ ?_
  show Steps p.tables e below (T1.setTop { method := m, pc := pc + 3, locals := ls, stack := .ref T.heap.size :: rest, locked := none }) _
  jvm_step X₁.here [X₁.here.top, hexec, d3', Value.category]
  exact hsteps
/-- 'throw new E("text")': new; dup; ldc; invokespecial; athrow -/
theorem vx_throwS {cc : ByteArray} {pc : Nat} (hexec : p.tables.exec = Jvm.exec) (hb : c.code = cc) (hl : l.stackTraces = false) {own cls text : String} {names : List String} {ik is ic mc ms sa : Nat} {A : Nat → Prop}
    (hown : s.vm.findClass own = some m.cls) (hcls : Bundle.fit cls = true) (hnames : ∀ n ∈ names, Bundle.fit n = true)
    (hk : (Cond.classLink own ik cls).before args s = true) (hini : (Cond.initialized cls).before args s = true) (hstr : vk_R own is text sa s) (hat : ∀ w ∈ vx_atS own ic cls names, w.before args s = true)
    (hgood : ∀ w ∈ Cond.classLink own ik cls :: Cond.initialized cls :: vx_atS own ic cls names, vx_ot w = true)
    (hU : vx_Zq Bundle.tN "UNASSIGNED_STACK" Bundle.steD A s s.heap) (hN : vx_Zq Bundle.tN "SUPPRESSED_SENTINEL" Bundle.listD A s s.heap) (hS : va_S A s.heap H locs) (hsize : ls.size = c.maxLocals)
    (d0 : decode cc pc = .ok (.new ik, 3)) (d3 : decode cc (pc + 3) = .ok (.dup, 1)) (d4 : decode cc (pc + 4) = .ok (.ldc is, 2)) (d6 : decode cc (pc + 6) = .ok (.invokespecial ic, 3)) (d9 : decode cc (pc + 9) = .ok (.athrow, 1))
    (hout : ∀ x ∈ c.exceptionTable.toList, covers x (pc + 9) = false)
    (hRframes : names.length + 3 < R.frames) (hRlocals : (rest.map fun v => v.category).sum + (13 * (names.length + 1) + 43) ≤ R.locals) (hRcells : cells + 1 ≤ R.cells) (hRslots : slots + 6 ≤ R.slots) (hlocks : meth.locks = false)
    (hx : ∀ t : State, s.vm.Alike t.vm → H.size ≤ t.heap.size → (∀ q : Nat, q < H.size → t.heap[q]? = H[q]?) → XC cls s t)
    (hf : ∀ z ∈ locs, free z.base) (hc : cells + 1 ≤ mc) (hs : slots + 6 ≤ ms) :
    W p l e R s m args below meth c H locs cells slots (vx_MQ below Qc XC args s mc ms free) (F0 m pc ls rest) := by
  intro T hT X
  have htr : e.platform.stackTraces = false := (show e.platform.stackTraces = l.stackTraces by rw [X.admits.platform]).trans hl
  have Y := vx_rebase X (R' := { frames := R.frames, locals := R.locals, cells := 1, slots := 6 }) (Nat.le_refl _) (Nat.le_refl _) hRcells hRslots
  obtain ⟨s', hA⟩ : ∃ z, z = (T.setVm s.vm).setFrames (.invoking m args :: below) := ⟨_, rfl⟩
  rw [← hA] at Y
  have hvm : s'.vm = s.vm := by rw [hA]; rfl
  have hhp : s'.heap = H := by rw [hA]; exact hT
  have hW0 : s.WarmedH s'.vm := by rw [hvm]; exact State.WarmedH.refl s
  have hat' : ∀ w ∈ vx_atS own ic cls names, w.before args s' = true := fun w hw => vx_ot_at hW0 hvm.symm (hgood w (List.mem_cons_of_mem _ (List.mem_cons_of_mem _ hw))) (hat w hw)
  have hk' : (Cond.classLink own ik cls).before args s' = true := vx_ot_at hW0 hvm.symm (hgood _ List.mem_cons_self) hk
  have hini' : (Cond.initialized cls).before args s' = true := vx_ot_at hW0 hvm.symm (hgood _ (List.mem_cons_of_mem _ List.mem_cons_self)) hini
  have hU' : vx_Zq Bundle.tN "UNASSIGNED_STACK" Bundle.steD A s' s'.heap := by rw [hhp]; exact vx_Zq.moved hW0.alike (hU.kept hS.2.1)
  have hN' : vx_Zq Bundle.tN "SUPPRESSED_SENTINEL" Bundle.listD A s' s'.heap := by rw [hhp]; exact vx_Zq.moved hW0.alike (hN.kept hS.2.1)
  have h : ∀ w ∈ Bundle.ownAtoms own ic cls names, w.before args s' = true := vx_own hat' (vx_isRefq hU'.1) (vx_isRefq hN'.1) hU'.2.word hN'.2.word
  have hown' : s'.vm.findClass own = some m.cls := by rw [hvm]; exact hown
  have hins : (Cond.instantiable cls 6).before args s' = true := h _ (by simp [Bundle.ownAtoms])
  obtain ⟨vm₁, cX, kX, hfX, hkX, -, -, X₁, st1⟩ := Y.newCold hexec (own := own) (C := cls) (index := ik) (n := 6) hown' hk' hins hini'
    (g := F0 m pc ls rest) rfl (by rw [hb]; exact d0) (Nat.le_refl _) (Nat.le_refl _)
  generalize hT1 : (T.setVm vm₁).pushCell { cls := cX, slots := kX.instanceTypes.map defaultValue, vm := .none } = T1 at X₁ st1
  have hcat : (Value.ref T.heap.size).category = 1 := rfl
  have hcellA : T1.heap[T.heap.size]? = some (freshCell cX kX) := by rw [← hT1]; exact State.heap_pushCell_size _ _
  have d3' : decode c.code (pc + 3) = .ok (.dup, 1) := by rw [hb]; exact d3
  have d4' : decode c.code (pc + 4) = .ok (.ldc is, 2) := by rw [hb]; exact d4
  have hstr' : vk_R own is text sa s' := vk_R.warm hW0 hstr
  obtain ⟨U, hsteps, hrun, hend, hW, hsame, ce, hce, hO⟩ := X₁.ctorThrowS hexec htr (own := own) (cls := cls) (names := names) (ic := ic) hown' hcls hnames h (fun x hx => nomatch hx) hfX hkX hcellA (by rw [hhp, hT]; exact Nat.le_refl _) (msg := .ref sa) rfl
    (g := { method := m, pc := pc + 6, locals := ls, stack := .ref sa :: .ref T.heap.size :: .ref T.heap.size :: rest, locked := none }) rfl hsize rfl rfl (rest := rest) rfl
    (by rw [hb]; exact d6) (by rw [hb]; exact d9) hout hRframes (by simp only [List.map_cons, List.sum_cons, hcat]; omega) hlocks
  obtain ⟨f1, f2⟩ := vx_frame hsame
  rw [hhp] at f1 f2
  have hWs : s.WarmedH U.vm := State.WarmedH.trans hW0 hW
  have hcl : s.vm.findClass cls = some ce.cls := by
    have h9 := hO.cls
    rw [hvm] at h9
    exact h9
  have hall : s.sameButNew ({ U with vm := s.vm } : State) locs mc ms := by
    subst hA
    obtain ⟨e1, e2⟩ := hsame
    rw [State.setFrames_setFrames] at e1
    have h2 : (T.setVm s.vm).sameButNew ({ U with vm := s.vm } : State) [] (0 + 1) (0 + 6) := ⟨e1, e2⟩
    have h3 := X.same.trans h2
    rw [List.append_nil] at h3
    exact h3.mono hc hs
  refine ⟨U, ?_, .threw T.heap.size, hrun, hend, Or.inr ⟨T.heap.size, rfl, cls, ce, locs, hx U hWs.alike f1 (fun q hq => f2 q hq (fun z hz => nomatch hz)), hce, hO.vm, hcl, hWs, hall, hf⟩⟩
  refine st1 _ ?_
  show Steps p.tables e below (T1.setTop { method := m, pc := pc + 3, locals := ls, stack := .ref T.heap.size :: rest, locked := none }) _
  jvm_step X₁.here [X₁.here.top, hexec, d3', Value.category]
  exact X₁.ldcString hexec (own := own) (text := text) (index := is) (a := sa) hown' hstr'.1 hstr'.2
    (g := { method := m, pc := pc + 4, locals := ls, stack := .ref T.heap.size :: .ref T.heap.size :: rest, locked := none }) rfl d4' _ hsteps
/-- 'throw new E("text")', the text by a wide index -/
theorem vx_throwSW {cc : ByteArray} {pc : Nat} (hexec : p.tables.exec = Jvm.exec) (hb : c.code = cc) (hl : l.stackTraces = false) {own cls text : String} {names : List String} {ik is ic mc ms sa : Nat} {A : Nat → Prop}
    (hown : s.vm.findClass own = some m.cls) (hcls : Bundle.fit cls = true) (hnames : ∀ n ∈ names, Bundle.fit n = true)
    (hk : (Cond.classLink own ik cls).before args s = true) (hini : (Cond.initialized cls).before args s = true) (hstr : vk_R own is text sa s) (hat : ∀ w ∈ vx_atS own ic cls names, w.before args s = true)
    (hgood : ∀ w ∈ Cond.classLink own ik cls :: Cond.initialized cls :: vx_atS own ic cls names, vx_ot w = true)
    (hU : vx_Zq Bundle.tN "UNASSIGNED_STACK" Bundle.steD A s s.heap) (hN : vx_Zq Bundle.tN "SUPPRESSED_SENTINEL" Bundle.listD A s s.heap) (hS : va_S A s.heap H locs) (hsize : ls.size = c.maxLocals)
    (d0 : decode cc pc = .ok (.new ik, 3)) (d3 : decode cc (pc + 3) = .ok (.dup, 1)) (d4 : decode cc (pc + 4) = .ok (.ldc_w is, 3)) (d7 : decode cc (pc + 7) = .ok (.invokespecial ic, 3)) (d10 : decode cc (pc + 10) = .ok (.athrow, 1))
    (hout : ∀ x ∈ c.exceptionTable.toList, covers x (pc + 10) = false)
    (hRframes : names.length + 3 < R.frames) (hRlocals : (rest.map fun v => v.category).sum + (13 * (names.length + 1) + 43) ≤ R.locals) (hRcells : cells + 1 ≤ R.cells) (hRslots : slots + 6 ≤ R.slots) (hlocks : meth.locks = false)
    (hx : ∀ t : State, s.vm.Alike t.vm → H.size ≤ t.heap.size → (∀ q : Nat, q < H.size → t.heap[q]? = H[q]?) → XC cls s t)
    (hf : ∀ z ∈ locs, free z.base) (hc : cells + 1 ≤ mc) (hs : slots + 6 ≤ ms) :
    W p l e R s m args below meth c H locs cells slots (vx_MQ below Qc XC args s mc ms free) (F0 m pc ls rest) := by
  intro T hT X
  have htr : e.platform.stackTraces = false := (show e.platform.stackTraces = l.stackTraces by rw [X.admits.platform]).trans hl
  have Y := vx_rebase X (R' := { frames := R.frames, locals := R.locals, cells := 1, slots := 6 }) (Nat.le_refl _) (Nat.le_refl _) hRcells hRslots
  obtain ⟨s', hA⟩ : ∃ z, z = (T.setVm s.vm).setFrames (.invoking m args :: below) := ⟨_, rfl⟩
  rw [← hA] at Y
  have hvm : s'.vm = s.vm := by rw [hA]; rfl
  have hhp : s'.heap = H := by rw [hA]; exact hT
  have hW0 : s.WarmedH s'.vm := by rw [hvm]; exact State.WarmedH.refl s
  have hat' : ∀ w ∈ vx_atS own ic cls names, w.before args s' = true := fun w hw => vx_ot_at hW0 hvm.symm (hgood w (List.mem_cons_of_mem _ (List.mem_cons_of_mem _ hw))) (hat w hw)
  have hk' : (Cond.classLink own ik cls).before args s' = true := vx_ot_at hW0 hvm.symm (hgood _ List.mem_cons_self) hk
  have hini' : (Cond.initialized cls).before args s' = true := vx_ot_at hW0 hvm.symm (hgood _ (List.mem_cons_of_mem _ List.mem_cons_self)) hini
  have hU' : vx_Zq Bundle.tN "UNASSIGNED_STACK" Bundle.steD A s' s'.heap := by rw [hhp]; exact vx_Zq.moved hW0.alike (hU.kept hS.2.1)
  have hN' : vx_Zq Bundle.tN "SUPPRESSED_SENTINEL" Bundle.listD A s' s'.heap := by rw [hhp]; exact vx_Zq.moved hW0.alike (hN.kept hS.2.1)
  have h : ∀ w ∈ Bundle.ownAtoms own ic cls names, w.before args s' = true := vx_own hat' (vx_isRefq hU'.1) (vx_isRefq hN'.1) hU'.2.word hN'.2.word
  have hown' : s'.vm.findClass own = some m.cls := by rw [hvm]; exact hown
  have hins : (Cond.instantiable cls 6).before args s' = true := h _ (by simp [Bundle.ownAtoms])
  obtain ⟨vm₁, cX, kX, hfX, hkX, -, -, X₁, st1⟩ := Y.newCold hexec (own := own) (C := cls) (index := ik) (n := 6) hown' hk' hins hini'
    (g := F0 m pc ls rest) rfl (by rw [hb]; exact d0) (Nat.le_refl _) (Nat.le_refl _)
  generalize hT1 : (T.setVm vm₁).pushCell { cls := cX, slots := kX.instanceTypes.map defaultValue, vm := .none } = T1 at X₁ st1
  have hcat : (Value.ref T.heap.size).category = 1 := rfl
  have hcellA : T1.heap[T.heap.size]? = some (freshCell cX kX) := by rw [← hT1]; exact State.heap_pushCell_size _ _
  have d3' : decode c.code (pc + 3) = .ok (.dup, 1) := by rw [hb]; exact d3
  have d4' : decode c.code (pc + 4) = .ok (.ldc_w is, 3) := by rw [hb]; exact d4
  have hstr' : vk_R own is text sa s' := vk_R.warm hW0 hstr
  obtain ⟨U, hsteps, hrun, hend, hW, hsame, ce, hce, hO⟩ := X₁.ctorThrowS hexec htr (own := own) (cls := cls) (names := names) (ic := ic) hown' hcls hnames h (fun x hx => nomatch hx) hfX hkX hcellA (by rw [hhp, hT]; exact Nat.le_refl _) (msg := .ref sa) rfl
    (g := { method := m, pc := pc + 7, locals := ls, stack := .ref sa :: .ref T.heap.size :: .ref T.heap.size :: rest, locked := none }) rfl hsize rfl rfl (rest := rest) rfl
    (by rw [hb]; exact d7) (by rw [hb]; exact d10) hout hRframes (by simp only [List.map_cons, List.sum_cons, hcat]; omega) hlocks
  obtain ⟨f1, f2⟩ := vx_frame hsame
  rw [hhp] at f1 f2
  have hWs : s.WarmedH U.vm := State.WarmedH.trans hW0 hW
  have hcl : s.vm.findClass cls = some ce.cls := by
    have h9 := hO.cls
    rw [hvm] at h9
    exact h9
  have hall : s.sameButNew ({ U with vm := s.vm } : State) locs mc ms := by
    subst hA
    obtain ⟨e1, e2⟩ := hsame
    rw [State.setFrames_setFrames] at e1
    have h2 : (T.setVm s.vm).sameButNew ({ U with vm := s.vm } : State) [] (0 + 1) (0 + 6) := ⟨e1, e2⟩
    have h3 := X.same.trans h2
    rw [List.append_nil] at h3
    exact h3.mono hc hs
  refine ⟨U, ?_, .threw T.heap.size, hrun, hend, Or.inr ⟨T.heap.size, rfl, cls, ce, locs, hx U hWs.alike f1 (fun q hq => f2 q hq (fun z hz => nomatch hz)), hce, hO.vm, hcl, hWs, hall, hf⟩⟩
  refine st1 _ ?_
  show Steps p.tables e below (T1.setTop { method := m, pc := pc + 3, locals := ls, stack := .ref T.heap.size :: rest, locked := none }) _
  jvm_step X₁.here [X₁.here.top, hexec, d3', Value.category]
  exact X₁.ldcStringW hexec (own := own) (text := text) (index := is) (a := sa) hown' hstr'.1 hstr'.2
    (g := { method := m, pc := pc + 4, locals := ls, stack := .ref T.heap.size :: .ref T.heap.size :: rest, locked := none }) rfl d4' _ hsteps
end Ends
section Bodies
variable {l : Launch}
theorem vx_ofW {y : MethodName} {ws ws' : List Cond} {rm : Room} {Pc : Array Value → State → Prop} {Qc : Array Value → State → Outcome → State → Prop} {XC : String → State → State → Prop} {mc ms : Nat} {free : Addr → Prop} {cc : ByteArray} {maxL : Nat} {ret : Option FieldType}
    (hy : plainName y.cls = true) (hw : ws = Cond.code y cc maxL ret :: ws')
    (body : ∀ p e s m args below meth c s₁, BodyLoose p l y (headSpec ws rm) cc maxL ret e s m args below meth c s₁ → c.maxLocals = maxL → (∀ x ∈ c.exceptionTable.toList, False) → Pc args s →
      W p l e (headSpec ws rm).room s m args below meth c s.heap [] 0 0 (vx_MQ below Qc XC args s mc ms free) (entryFrame m args maxL)) : vx_Met l y ws rm Pc Qc XC mc ms free := by
  refine MetFree.of_bodyS (code := cc) (maxLocals := maxL) (ret := ret) hy ?_ ?_
  · intro args s m h hn
    obtain ⟨meth, c, h1, h2, h3, h4, h5, h6, -, -⟩ := Cond.code_spec hn (atoms_spec (ws := ws) h _ (by rw [hw]; exact List.mem_cons_self))
    exact ⟨meth, c, h1, h2, h3, h4, h5, h6⟩
  · intro p e s m args below meth c s₁ B hml hP _
    have hh0 : s₁.heap = s.heap := by rw [B.state]; rfl
    have ht : ∀ x ∈ c.exceptionTable.toList, False := by
      obtain ⟨meth9, c9, h1, h2, -, -, -, -, h7, -⟩ := Cond.code_spec B.named (atoms_spec (ws := ws) B.pre _ (by rw [hw]; exact List.mem_cons_self))
      cases Option.some.inj (h1.symm.trans B.method)
      cases Option.some.inj (h2.symm.trans (Stand.of_body B).code)
      intro x hx
      rw [Array.isEmpty_iff.mp h7] at hx
      cases hx
    obtain ⟨t, a1, o, b1, b2, b3⟩ := body p e s m args below meth c s₁ B hml ht hP s₁ hh0 (Stand.of_body B)
    exact ⟨t, o, a1, b1, b2, b3⟩
/-- the table of a body with handlers -/
theorem vx_table {p : Program} {x y : MethodName} {S : Spec} {cc bytes : ByteArray} {maxL maxL' : Nat} {ret ret' : Option FieldType} {e : Env} {s s₁ : State} {m : MethodId} {args : Array Value} {below : List Frame} {meth : Method} {c : Code} {hh : List (Nat × Nat × Nat × Nat)}
    (B : BodyLoose p l y S cc maxL ret e s m args below meth c s₁) (h : (Cond.codeWith y bytes maxL' ret' hh).before args s = true) : c.exceptionTable.toList = tableOf hh := by
  obtain ⟨m9, meth9, c9, hn9, h1, h2, -, -, h6, -⟩ := Cond.codeWith_spec h
  cases Option.some.inj (hn9.symm.trans B.named)
  cases Option.some.inj (h1.symm.trans B.method)
  cases Option.some.inj (h2.symm.trans (Stand.of_body B).code)
  rw [← h6, table_eq]
end Bodies
end VXA
/-! ===== END ===== -/
/-! ===== BEGIN a static call of a method with an exception table ===== -/
section VXS
variable {p : Program} {l : Launch} {e : Env} {R : Room} {s : State} {m : MethodId} {args : Array Value} {below : List Frame} {meth : Method} {c : Code} {T : State} {H : Heap} {locs : List Loc} {cells slots : Nat}
abbrev vx_CSW (R : Room) (s : State) (args : Array Value) (own : String) (index : Nat) (y : MethodName) (bytes : ByteArray) (maxL : Nat) (ret : Option FieldType) (hh : List (Nat × Nat × Nat × Nat)) (ws : List Cond) (rm : Room) (mc ms n : Nat) : Prop :=
  (rm.cells = mc ∧ rm.slots = ms ∧ rm.frames + 1 ≤ R.frames ∧ 8 + (maxL + 11) + rm.locals ≤ R.locals ∧ (∀ w ∈ ws, ∀ (a' : Array Value) (U : State), s.WarmedH U.vm → w.before a' U = true) ∧ Cond.codeWith y bytes maxL ret hh ∈ ws) ∧
  (Cond.codeWith y bytes maxL ret hh).before args s = true ∧ (Cond.initialized y.cls).before args s = true ∧ (y.cls ≠ "java/lang/invoke/MethodHandle" ∧ y.cls ≠ "java/lang/invoke/VarHandle") ∧
  (∀ sig, parseMethodDescriptor y.desc = some sig → n = sig.parameters.length) ∧ (Cond.methodLink own index y).before args s = true ∧ (Cond.static y).before args s = true
theorem vx_cwSW {own : String} {index maxL mc ms : Nat} {y : MethodName} {bytes : ByteArray} {ret : Option FieldType} {hh : List (Nat × Nat × Nat × Nat)} {Ts ws ws' : List Cond} {rm : Room} (n : Nat) (ht : ∀ w ∈ Ts, w.before args s = true) (hT : GoodIn Ts (va_wsS own index y ws)) (hw : ws = Cond.codeWith y bytes maxL ret hh :: ws') (hrc : rm.cells = mc) (hrs : rm.slots = ms)
    (hd : y.cls ≠ "java/lang/invoke/MethodHandle" ∧ y.cls ≠ "java/lang/invoke/VarHandle" ∧ (parseMethodDescriptor y.desc).map (fun d => d.parameters.length) = some n) (hR : rm.frames + 1 ≤ R.frames ∧ 8 + (maxL + 11) + rm.locals ≤ R.locals) :
    vx_CSW R s args own index y bytes maxL ret hh ws rm mc ms n := by
  have ok : ∀ w ∈ va_wsS own index y ws, w.before args s = true := fun w h => ht w (hT w h).1
  have hG : GoodIn Ts ws := fun w h => hT w (by unfold va_wsS; exact List.mem_append_right _ h)
  have hc : Cond.codeWith y bytes maxL ret hh ∈ ws := by rw [hw]; exact List.mem_cons_self
  refine ⟨⟨hrc, hrs, hR.1, hR.2, pay_in ht hG, hc⟩, ht _ (hG _ hc).1, ok _ (by simp [va_wsS]), ⟨hd.1, hd.2.1⟩, fun sig h => ?_, ok _ (by simp [va_wsS]), ok _ (by simp [va_wsS])⟩
  have h2 := hd.2.2
  rw [h] at h2
  exact (Option.some.inj h2).symm
theorem vx_callSW (X : Stand p l e R s m args below meth c T locs cells slots) (hexec : p.tables.exec = Jvm.exec) {own : String} {index : Nat} {y : MethodName} {bytes : ByteArray} {maxL : Nat} {ret : Option FieldType} {hh : List (Nat × Nat × Nat × Nat)}
    (hown : s.vm.findClass own = some m.cls) (hlink : (Cond.methodLink own index y).before args s = true) (hstat : (Cond.static y).before args s = true) (hinit : (Cond.initialized y.cls).before args s = true)
    (hcode : (Cond.codeWith y bytes maxL ret hh).before args s = true) (hy : y.cls ≠ "java/lang/invoke/MethodHandle" ∧ y.cls ≠ "java/lang/invoke/VarHandle")
    {W9 : Nat} {Pre : Pt → Array Value → Prop} {Post : Pt → Array Value → Option Value → Pt → Prop} (hK : Back l R p e below s args y 3 W9 Pre Post)
    {g : JFrame} (hg : g.method = m) (hsize : g.locals.size = c.maxLocals) {argsL rest : List Value} (hlen : ∀ sig, parseMethodDescriptor y.desc = some sig → argsL.length = sig.parameters.length)
    (hstack : g.stack = argsL.reverse ++ rest) (hW : 2 * g.monitorRoom + (rest.map fun v => v.category).sum ≤ W9) (hdg : decode c.code g.pc = .ok (.invokestatic index, 3))
    (hpre : ∀ vm₁, s.WarmedH vm₁ → Pre ⟨T.setVm vm₁, locs, cells, slots⟩ argsL.toArray) :
    ∃ (v : Option Value) (vm₁ : Vm) (B : Pt), s.WarmedH vm₁ ∧ Stand p l e R s m args below meth c B.U B.locs B.cells B.slots ∧ Post ⟨T.setVm vm₁, locs, cells, slots⟩ argsL.toArray v B ∧
      ∀ target, Steps p.tables e below (B.U.setTop { g with pc := g.pc + 3, stack := v.toList ++ rest }) target → Steps p.tables e below (T.setTop g) target := by
  obtain ⟨mk, methM, cM, hnamed, hmethM, -, -, -, -, -, -, hsigM⟩ := Cond.codeWith_spec hcode
  have hstatic : methM.isStatic = true := Cond.static_spec hnamed hmethM hstat
  obtain ⟨kP, hkP, -⟩ := className_of_methodNamed hnamed
  have hinitP : kP.init = .initialized := Cond.initialized_spec (findClass_of_methodNamed hnamed) hkP hinit
  obtain ⟨vm₁, X₁, hstep₁⟩ := X.invokestatic hexec hown hlink hnamed hmethM hstatic hkP hinitP hy (g := g) hg (argsL := argsL) (rest := rest) (hlen _ hsigM) hstack hdg
  obtain ⟨v, B, X', hpost, hsteps⟩ := hK m meth c ⟨T.setVm vm₁, locs, cells, slots⟩ { g with stack := rest } (.invokestatic index) mk argsL.toArray X₁ hg hsize hdg hW (X₁.named hnamed) (hpre vm₁ X₁.warmed)
  exact ⟨v, vm₁, B, X₁.warmed, X', hpost, fun target h => hstep₁ _ fun acts => by rw [doInvoke_state]; exact hsteps.trans h⟩
theorem vx_runSW {y : MethodName} {bytes cc : ByteArray} {maxL nL mc ms n index : Nat} {ret : Option FieldType} {hh : List (Nat × Nat × Nat × Nat)} {ws : List Cond} {rm : Room} {Pc : Array Value → State → Prop} {Qc : Array Value → State → Outcome → State → Prop} {free : Addr → Prop} {Ts : List Cond} {own : String} {As rest : List Value} {g : JFrame}
    (S : CallFix p m c cc nL s args Ts own) (hM : Met l y ws rm Pc Qc mc ms free) (cw : vx_CSW R s args own index y bytes maxL ret hh ws rm mc ms n) (hp : PreS s H Pc As)
    (hg : g.method = m) (hn : As.length = n) (hsize : g.locals.size = nL) (hstack : g.stack = As.reverse ++ rest) (hW : 2 * g.monitorRoom + (rest.map fun v => v.category).sum ≤ 8) (hdg : decode cc g.pc = .ok (.invokestatic index, 3)) (hf : cells + mc ≤ R.cells ∧ slots + ms ≤ R.slots) :
    va_Run p l e R s m args below meth c H locs cells slots mc ms g rest (Qc As.toArray) (free) := by
  obtain ⟨⟨hrc, hrs, hfr, hlo, hws, hcw⟩, hcode, hini, hy, hlen, hl, hstt⟩ := cw
  have hK : Back l R p e below s args y 3 8 (PreOf R mc ms Pc) (PostOf Qc mc ms free) := va_backW (hh := hh) (bytes := bytes) (maxL := maxL) (ret := ret) hM hp.1 hrc hrs hfr hlo hws hcw (fun a' U hW => word_at hW (Or.inl (by first | rfl | simp [Cond.onTables, Cond.keeps, Cond.steady])) hini)
  obtain ⟨hx, hb, hml, ho, -⟩ := S
  intro T hT X
  obtain ⟨v, vm₁, ⟨U', l2, c2, s2⟩, hW₁, X', ⟨g', mk, t, L, e1, e2, hq, h1, hL, h2, h3⟩, st⟩ := vx_callSW X hx (hh := hh) (bytes := bytes) (maxL := maxL) (ret := ret) ho hl hstt hini hcode hy hK hg (hsize.trans hml.symm) (argsL := As) (rest := rest) (fun sig h => hn.trans (hlen sig h)) hstack hW (by rw [hb]; exact hdg)
    (fun vm₁ hW₁ => ⟨hf.1, hf.2, hp.2 (T.setVm vm₁) hT hW₁⟩)
  dsimp only [Pt.U, Pt.locs, Pt.cells, Pt.slots] at X' e1 e2 h1 h2 h3 st
  subst h1; subst h2; subst h3
  exact ⟨v, (T.setVm vm₁).calling g' mk As.toArray, t, U', L, hT, X', hL, e1, e2, hq, st⟩
/-- a thing of a world lies in the heap -/
theorem vx_lt {D : va_G} {cl : List vw_C} {ws : va_W} {H1 : Heap} (h : va_P D cl ws H1) {k : Nat} {q : Nat × va_E} (hk : ws[k]? = some q) : q.1 < H1.size := (h k q hk).lt
end VXS
/-! ===== END ===== -/
/-! ===== BEGIN methods with a table of their own: called by a name, returning or throwing ===== -/
section VXH
/-! vx_backW, vx_callVX, vx_callSX, vx_callVW, vx_runVW, vx_runVX, vx_runSX, vx_ofWH follow the same proofs as their sisters above (Free/Laws.lean, Shelf42/LK1.lean); vx_outP calls Shelf42/NT130.lean (outThrough). -/
section
variable {l : Launch} {R : Room} {p : Program} {e : Env} {below : List Frame} {s : State} {sargs : Array Value} {y : MethodName} {len W9 : Nat}
theorem vx_backW {ws : List Cond} {rm : Room} {Pc : Array Value → State → Prop} {Qc : Array Value → State → Outcome → State → Prop} {XC : String → State → State → Prop} {mc ms : Nat} {free : Addr → Prop} {bytes : ByteArray} {maxL : Nat} {ret : Option FieldType} {hh : List (Nat × Nat × Nat × Nat)}
    (hM : vx_Met l y ws rm Pc Qc XC mc ms free) (hblind : FrameBlind Pc) (hrc : rm.cells = mc) (hrs : rm.slots = ms)
    (hframes : rm.frames + 1 ≤ R.frames) (hlocals : W9 + (maxL + 11) + rm.locals ≤ R.locals)
    (hws : ∀ w ∈ ws, ∀ a' U, s.WarmedH U.vm → w.before a' U = true) (hcode : Cond.codeWith y bytes maxL ret hh ∈ ws) (hinit : ∀ a' U, s.WarmedH U.vm → (Cond.initialized y.cls).before a' U = true) :
    vx_Back l R p e below s sargs y len W9 (PreOf R mc ms Pc) (PostOf Qc mc ms free) (vx_Post XC mc ms free) := by
  intro m meth c A g ig mk a X hg hsize hdg hW hn hp
  have h1 : (headSpec ws rm).pre.before a A.U = true := atoms_intro fun w hw => hws w hw _ _ X.warmed
  have h2 : (Cond.codeWith y bytes maxL ret hh).before a A.U = true := hws _ hcode _ _ X.warmed
  have h3 : (Cond.initialized y.cls).before a A.U = true := hinit _ _ X.warmed
  have h4 : A.cells + (headSpec ws rm).room.cells ≤ R.cells := by rw [show (headSpec ws rm).room.cells = mc from hrc]; exact hp.1
  have h5 : A.slots + (headSpec ws rm).room.slots ≤ R.slots := by rw [show (headSpec ws rm).room.slots = ms from hrs]; exact hp.2.1
  have hPc : Pc a (A.U.calling g mk a) := hblind _ _ _ _ hp.2.2
  obtain ⟨U, Ls, c0, s0⟩ := A
  dsimp only [Pt.U, Pt.locs, Pt.cells, Pt.slots] at h1 h2 h3 h4 h5 X hn hPc ⊢
  obtain ⟨m9, methY, cY, hn9, hmY, hcY, -, hlY, -⟩ := Cond.codeWith_spec h2
  cases Option.some.inj (hn9.symm.trans hn)
  obtain ⟨kY, hkY, -⟩ := className_of_methodNamed hn
  have hinitY : kY.init = .initialized := Cond.initialized_spec (findClass_of_methodNamed hn) hkY h3
  have h : At U g.method c below := by rw [hg]; exact X.here
  have hlocals9 : W9 + (maxL + 11) + (headSpec ws rm).room.locals ≤ R.locals := hlocals
  have happ : (headSpec ws rm).appliesLoose y e.platform (U.calling g mk a) = true :=
    Spec.appliesLoose_calling (g := g) h hdg hn hkY hinitY
      (X.room_calling (g := g) (R' := (headSpec ws rm).room) hsize hmY hcY hframes (by rw [hlY]; omega) h4 h5) h1
  obtain ⟨mid, hmid⟩ := h.above
  have hfr : (U.setTop g).frames = (.java g :: mid) ++ below := by rw [State.frames_setTop' g h.top, hmid]; rfl
  obtain ⟨o, s₂, hsteps, -, hend, hq⟩ := Steps.callFree hM p X.admits X.cas X.clock (acts := []) hfr happ hPc trivial
  have hq' : vx_Q Qc XC mc ms free a (U.calling g mk a) o s₂ := hq
  rw [State.frames_setTop' g h.top] at hend
  obtain ⟨g₀, hg0⟩ := Option.isSome_iff_exists.mp h.top
  obtain ⟨r, hr⟩ := State.topJava?_eq_some.mp hg0
  have hr' : (({ U with heap := s₂.heap, slotsUsed := s₂.slotsUsed } : State).setVm s₂.vm).frames = .java g₀ :: r := hr
  rcases hq' with ⟨hqc, L, hfe, hL⟩ | ⟨q, rfl, E, ce, L, hx, hce, hcv, hcl, hW₂, hsm, hL⟩
  · obtain ⟨⟨v, rfl⟩, hW₂, e2, q2, q3, q4, q5, q6⟩ := id hfe
    have e3 : s₂ = ({ (U.calling g mk a).setFrames s₂.frames with heap := s₂.heap, slotsUsed := s₂.slotsUsed } : State).setVm s₂.vm := by
      have : s₂ = ({ s₂ with vm := (U.calling g mk a).vm } : State).setVm s₂.vm := rfl
      rw [e2] at this
      exact this
    obtain ⟨c₂, i₂, len₂, hc₂, hd₂, hf₂⟩ := hend
    have hW' : U.WarmedH s₂.vm := hW₂
    have hcc : c₂ = c := by
      have h1 : s₂.code? g.method = U.code? g.method := by
        rw [State.code?_eq, State.code?_eq, hW'.alike.method?]
      exact Option.some.inj (hc₂.symm.trans (h1.trans h.code))
    subst hcc
    have hlen : len₂ = len := by rw [hdg] at hd₂; cases hd₂; rfl
    subst hlen
    have hs₂ : s₂ = (({ U with heap := s₂.heap, slotsUsed := s₂.slotsUsed } : State).setVm s₂.vm).setTop { g with pc := g.pc + len₂, stack := v.toList ++ g.stack } := by
      refine e3.trans ?_
      rw [hf₂, State.calling_eq h.top, State.setFrames_setFrames, State.setTop_of_frames _ hr', hr]
      rfl
    have hsame : U.sameButNew ({ U with heap := s₂.heap, slotsUsed := s₂.slotsUsed } : State) L mc ms := by
      refine ⟨?_, q2, q3, q4, q5, q6⟩
      obtain ⟨t, ht, -⟩ := State.frames_cons hr
      show ({ U with heap := s₂.heap, slotsUsed := s₂.slotsUsed } : State) = { U.setFrames U.frames with heap := s₂.heap, slotsUsed := s₂.slotsUsed }
      rw [State.setFrames_self ht]
    subst hg
    refine Or.inl ⟨v, ⟨(({ U with heap := s₂.heap, slotsUsed := s₂.slotsUsed } : State).setVm s₂.vm), Ls ++ L, c0 + mc, s0 + ms⟩,
      ⟨X.admits, X.cas, X.clock, X.frames, X.room, X.hears, X.method, X.code, (X.here.setHeapUsed s₂.heap s₂.slotsUsed).setVm hW'.alike, X.tail, State.WarmedH.trans X.warmed hW', X.limits, X.bytes, X.same.trans (hsame.setVm s.vm)⟩,
      ⟨g, mk, s₂, L, rfl, rfl, hqc, rfl, hL, rfl, rfl⟩, ?_⟩
    show Steps p.tables e below _ ((({ U with heap := s₂.heap, slotsUsed := s₂.slotsUsed } : State).setVm s₂.vm).setTop { g with pc := g.pc + len₂, stack := v.toList ++ g.stack })
    rw [← hs₂]
    exact hsteps
  · obtain ⟨e2, q2, q3, q4, q5, q6⟩ := id hsm
    have e3 : s₂ = ({ (U.calling g mk a).setFrames s₂.frames with heap := s₂.heap, slotsUsed := s₂.slotsUsed } : State).setVm s₂.vm := by
      have : s₂ = ({ s₂ with vm := (U.calling g mk a).vm } : State).setVm s₂.vm := rfl
      rw [e2] at this
      exact this
    have hf₂ : s₂.frames = .throwing q :: .java g :: U.frames.tail := hend
    have hW' : U.WarmedH s₂.vm := hW₂
    have hs₂ : s₂ = ((({ U with heap := s₂.heap, slotsUsed := s₂.slotsUsed } : State).setVm s₂.vm).setTop g).pushFrame (.throwing q) := by
      refine e3.trans ?_
      rw [hf₂, State.calling_eq h.top, State.setFrames_setFrames, State.pushFrame, State.frames_setTop _ hr', State.setTop_of_frames _ hr', State.setFrames_setFrames, hr]
      rfl
    have hsame : U.sameButNew ({ U with heap := s₂.heap, slotsUsed := s₂.slotsUsed } : State) L mc ms := by
      refine ⟨?_, q2, q3, q4, q5, q6⟩
      obtain ⟨t, ht, -⟩ := State.frames_cons hr
      show ({ U with heap := s₂.heap, slotsUsed := s₂.slotsUsed } : State) = { U.setFrames U.frames with heap := s₂.heap, slotsUsed := s₂.slotsUsed }
      rw [State.setFrames_self ht]
    subst hg
    refine Or.inr ⟨q, ⟨(({ U with heap := s₂.heap, slotsUsed := s₂.slotsUsed } : State).setVm s₂.vm), Ls ++ L, c0 + mc, s0 + ms⟩,
      ⟨X.admits, X.cas, X.clock, X.frames, X.room, X.hears, X.method, X.code, (X.here.setHeapUsed s₂.heap s₂.slotsUsed).setVm hW'.alike, X.tail, State.WarmedH.trans X.warmed hW', X.limits, X.bytes, X.same.trans (hsame.setVm s.vm)⟩,
      ⟨g, mk, s₂, L, E, ce, rfl, rfl, hx, hce, hcv, hcl, rfl, hL, rfl, rfl⟩, ?_⟩
    show Steps p.tables e below _ (((({ U with heap := s₂.heap, slotsUsed := s₂.slotsUsed } : State).setVm s₂.vm).setTop g).pushFrame (.throwing q))
    rw [← hs₂]
    exact hsteps
end
variable {p : Program} {l : Launch} {e : Env} {R : Room} {s : State} {m : MethodId} {args : Array Value} {below : List Frame} {meth : Method} {c : Code} {T : State} {H : Heap} {locs : List Loc} {cells slots : Nat}
theorem vx_callVX (X : Stand p l e R s m args below meth c T locs cells slots) (hexec : p.tables.exec = Jvm.exec) {own C : String} {index : Nat} {y : MethodName} {bytes : ByteArray} {maxL : Nat} {ret : Option FieldType} {hh : List (Nat × Nat × Nat × Nat)}
    (hown : s.vm.findClass own = some m.cls) (hlink : (Cond.methodLink own index y).before args s = true) (hinst : (Cond.instanceMethod y).before args s = true) (hsel : (Cond.selects C y y).before args s = true)
    (hcode : (Cond.codeWith y bytes maxL ret hh).before args s = true) (hy : y.cls ≠ "java/lang/invoke/MethodHandle" ∧ y.cls ≠ "java/lang/invoke/VarHandle")
    {W9 : Nat} {Pre : Pt → Array Value → Prop} {Post : Pt → Array Value → Option Value → Pt → Prop} {PostX : Pt → Array Value → Addr → Pt → Prop} (hK : vx_Back l R p e below s args y 3 W9 Pre Post PostX)
    {b : Addr} {cellB : Cell} (hcell : T.heap[b]? = some cellB) (hobj : cellB.vm.isStatics = false) (hcls : s.vm.findClass C = some cellB.cls)
    {g : JFrame} (hg : g.method = m) (hsize : g.locals.size = c.maxLocals) {argsL rest : List Value} (hlen : ∀ sig, parseMethodDescriptor y.desc = some sig → argsL.length = sig.parameters.length)
    (hstack : g.stack = argsL.reverse ++ .ref b :: rest) (hW : 2 * g.monitorRoom + (rest.map fun v => v.category).sum ≤ W9) (hdg : decode c.code g.pc = .ok (.invokevirtual index, 3))
    (hpre : ∀ vm₁, s.WarmedH vm₁ → Pre ⟨T.setVm vm₁, locs, cells, slots⟩ (Value.ref b :: argsL).toArray) :
    (∃ (v : Option Value) (vm₁ : Vm) (B : Pt), s.WarmedH vm₁ ∧ Stand p l e R s m args below meth c B.U B.locs B.cells B.slots ∧ Post ⟨T.setVm vm₁, locs, cells, slots⟩ (Value.ref b :: argsL).toArray v B ∧
      ∀ target, Steps p.tables e below (B.U.setTop { g with pc := g.pc + 3, stack := v.toList ++ rest }) target → Steps p.tables e below (T.setTop g) target) ∨
    (∃ (q : Addr) (vm₁ : Vm) (B : Pt), s.WarmedH vm₁ ∧ Stand p l e R s m args below meth c B.U B.locs B.cells B.slots ∧ PostX ⟨T.setVm vm₁, locs, cells, slots⟩ (Value.ref b :: argsL).toArray q B ∧
      Steps p.tables e below (T.setTop g) ((B.U.setTop { g with stack := rest }).pushFrame (.throwing q))) := by
  obtain ⟨mk, methM, hnamed, hmethM, hstM, habM⟩ := Cond.instanceMethod_spec hinst
  obtain ⟨m8, methM', cM, hn8, hmethM', -, -, -, -, -, -, hsigM⟩ := Cond.codeWith_spec hcode
  cases Option.some.inj (hn8.symm.trans hnamed)
  cases hmethM.symm.trans hmethM'
  obtain ⟨c2, r2, m2, q1, q2, q3, q4, kP, hkP, hkPi⟩ := Cond.selects_spec hsel
  cases hcls.symm.trans q1
  cases (State.methodFound?_of_named hnamed hy).symm.trans q2
  cases hnamed.symm.trans q3
  have hselP : selectMethod e.platform s.vm cellB.cls mk = .method mk := by rw [Launch.admits_selectMethod X.admits]; exact q4
  obtain ⟨vm₁, X₁, hstep₁⟩ := X.invokevirtual hexec hown hlink hnamed hmethM hstM hkP hkPi hy (a := b) (cell := cellB) hcell
    (fun z h => by rw [h] at hobj; cases hobj) hselP hmethM habM hkP hkPi (g := g) hg (argsL := argsL) (rest := rest) (hlen _ hsigM) hstack hdg
  rcases hK m meth c ⟨T.setVm vm₁, locs, cells, slots⟩ { g with stack := rest } (.invokevirtual index) mk (Value.ref b :: argsL).toArray X₁ hg hsize hdg hW (X₁.named hnamed) (hpre vm₁ X₁.warmed) with ⟨v, B, X', hpost, hsteps⟩ | ⟨q, B, X', hpost, hsteps⟩
  · exact Or.inl ⟨v, vm₁, B, X₁.warmed, X', hpost, fun target h => hstep₁ _ fun acts => by rw [doInvoke_state]; exact hsteps.trans h⟩
  · exact Or.inr ⟨q, vm₁, B, X₁.warmed, X', hpost, hstep₁ _ fun acts => by rw [doInvoke_state]; exact hsteps⟩
theorem vx_callSX (X : Stand p l e R s m args below meth c T locs cells slots) (hexec : p.tables.exec = Jvm.exec) {own : String} {index : Nat} {y : MethodName} {bytes : ByteArray} {maxL : Nat} {ret : Option FieldType} {hh : List (Nat × Nat × Nat × Nat)}
    (hown : s.vm.findClass own = some m.cls) (hlink : (Cond.methodLink own index y).before args s = true) (hstat : (Cond.static y).before args s = true) (hinit : (Cond.initialized y.cls).before args s = true)
    (hcode : (Cond.codeWith y bytes maxL ret hh).before args s = true) (hy : y.cls ≠ "java/lang/invoke/MethodHandle" ∧ y.cls ≠ "java/lang/invoke/VarHandle")
    {W9 : Nat} {Pre : Pt → Array Value → Prop} {Post : Pt → Array Value → Option Value → Pt → Prop} {PostX : Pt → Array Value → Addr → Pt → Prop} (hK : vx_Back l R p e below s args y 3 W9 Pre Post PostX)
    {g : JFrame} (hg : g.method = m) (hsize : g.locals.size = c.maxLocals) {argsL rest : List Value} (hlen : ∀ sig, parseMethodDescriptor y.desc = some sig → argsL.length = sig.parameters.length)
    (hstack : g.stack = argsL.reverse ++ rest) (hW : 2 * g.monitorRoom + (rest.map fun v => v.category).sum ≤ W9) (hdg : decode c.code g.pc = .ok (.invokestatic index, 3))
    (hpre : ∀ vm₁, s.WarmedH vm₁ → Pre ⟨T.setVm vm₁, locs, cells, slots⟩ argsL.toArray) :
    (∃ (v : Option Value) (vm₁ : Vm) (B : Pt), s.WarmedH vm₁ ∧ Stand p l e R s m args below meth c B.U B.locs B.cells B.slots ∧ Post ⟨T.setVm vm₁, locs, cells, slots⟩ argsL.toArray v B ∧
      ∀ target, Steps p.tables e below (B.U.setTop { g with pc := g.pc + 3, stack := v.toList ++ rest }) target → Steps p.tables e below (T.setTop g) target) ∨
    (∃ (q : Addr) (vm₁ : Vm) (B : Pt), s.WarmedH vm₁ ∧ Stand p l e R s m args below meth c B.U B.locs B.cells B.slots ∧ PostX ⟨T.setVm vm₁, locs, cells, slots⟩ argsL.toArray q B ∧
      Steps p.tables e below (T.setTop g) ((B.U.setTop { g with stack := rest }).pushFrame (.throwing q))) := by
  obtain ⟨mk, methM, cM, hnamed, hmethM, -, -, -, -, -, -, hsigM⟩ := Cond.codeWith_spec hcode
  have hstatic : methM.isStatic = true := Cond.static_spec hnamed hmethM hstat
  obtain ⟨kP, hkP, -⟩ := className_of_methodNamed hnamed
  have hinitP : kP.init = .initialized := Cond.initialized_spec (findClass_of_methodNamed hnamed) hkP hinit
  obtain ⟨vm₁, X₁, hstep₁⟩ := X.invokestatic hexec hown hlink hnamed hmethM hstatic hkP hinitP hy (g := g) hg (argsL := argsL) (rest := rest) (hlen _ hsigM) hstack hdg
  rcases hK m meth c ⟨T.setVm vm₁, locs, cells, slots⟩ { g with stack := rest } (.invokestatic index) mk argsL.toArray X₁ hg hsize hdg hW (X₁.named hnamed) (hpre vm₁ X₁.warmed) with ⟨v, B, X', hpost, hsteps⟩ | ⟨q, B, X', hpost, hsteps⟩
  · exact Or.inl ⟨v, vm₁, B, X₁.warmed, X', hpost, fun target h => hstep₁ _ fun acts => by rw [doInvoke_state]; exact hsteps.trans h⟩
  · exact Or.inr ⟨q, vm₁, B, X₁.warmed, X', hpost, hstep₁ _ fun acts => by rw [doInvoke_state]; exact hsteps⟩
theorem vx_callVW (X : Stand p l e R s m args below meth c T locs cells slots) (hexec : p.tables.exec = Jvm.exec) {own C : String} {index : Nat} {y : MethodName} {bytes : ByteArray} {maxL : Nat} {ret : Option FieldType} {hh : List (Nat × Nat × Nat × Nat)}
    (hown : s.vm.findClass own = some m.cls) (hlink : (Cond.methodLink own index y).before args s = true) (hinst : (Cond.instanceMethod y).before args s = true) (hsel : (Cond.selects C y y).before args s = true)
    (hcode : (Cond.codeWith y bytes maxL ret hh).before args s = true) (hy : y.cls ≠ "java/lang/invoke/MethodHandle" ∧ y.cls ≠ "java/lang/invoke/VarHandle")
    {W9 : Nat} {Pre : Pt → Array Value → Prop} {Post : Pt → Array Value → Option Value → Pt → Prop} (hK : Back l R p e below s args y 3 W9 Pre Post)
    {b : Addr} {cellB : Cell} (hcell : T.heap[b]? = some cellB) (hobj : cellB.vm.isStatics = false) (hcls : s.vm.findClass C = some cellB.cls)
    {g : JFrame} (hg : g.method = m) (hsize : g.locals.size = c.maxLocals) {argsL rest : List Value} (hlen : ∀ sig, parseMethodDescriptor y.desc = some sig → argsL.length = sig.parameters.length)
    (hstack : g.stack = argsL.reverse ++ .ref b :: rest) (hW : 2 * g.monitorRoom + (rest.map fun v => v.category).sum ≤ W9) (hdg : decode c.code g.pc = .ok (.invokevirtual index, 3))
    (hpre : ∀ vm₁, s.WarmedH vm₁ → Pre ⟨T.setVm vm₁, locs, cells, slots⟩ (Value.ref b :: argsL).toArray) :
    ∃ (v : Option Value) (vm₁ : Vm) (B : Pt), s.WarmedH vm₁ ∧ Stand p l e R s m args below meth c B.U B.locs B.cells B.slots ∧ Post ⟨T.setVm vm₁, locs, cells, slots⟩ (Value.ref b :: argsL).toArray v B ∧
      ∀ target, Steps p.tables e below (B.U.setTop { g with pc := g.pc + 3, stack := v.toList ++ rest }) target → Steps p.tables e below (T.setTop g) target := by
  obtain ⟨mk, methM, hnamed, hmethM, hstM, habM⟩ := Cond.instanceMethod_spec hinst
  obtain ⟨m8, methM', cM, hn8, hmethM', -, -, -, -, -, -, hsigM⟩ := Cond.codeWith_spec hcode
  cases Option.some.inj (hn8.symm.trans hnamed)
  cases hmethM.symm.trans hmethM'
  obtain ⟨c2, r2, m2, q1, q2, q3, q4, kP, hkP, hkPi⟩ := Cond.selects_spec hsel
  cases hcls.symm.trans q1
  cases (State.methodFound?_of_named hnamed hy).symm.trans q2
  cases hnamed.symm.trans q3
  have hselP : selectMethod e.platform s.vm cellB.cls mk = .method mk := by rw [Launch.admits_selectMethod X.admits]; exact q4
  obtain ⟨vm₁, X₁, hstep₁⟩ := X.invokevirtual hexec hown hlink hnamed hmethM hstM hkP hkPi hy (a := b) (cell := cellB) hcell
    (fun z h => by rw [h] at hobj; cases hobj) hselP hmethM habM hkP hkPi (g := g) hg (argsL := argsL) (rest := rest) (hlen _ hsigM) hstack hdg
  obtain ⟨v, B, X', hpost, hsteps⟩ := hK m meth c ⟨T.setVm vm₁, locs, cells, slots⟩ { g with stack := rest } (.invokevirtual index) mk (Value.ref b :: argsL).toArray X₁ hg hsize hdg hW (X₁.named hnamed) (hpre vm₁ X₁.warmed)
  exact ⟨v, vm₁, B, X₁.warmed, X', hpost, fun target h => hstep₁ _ fun acts => by rw [doInvoke_state]; exact hsteps.trans h⟩
abbrev vx_CVW (R : Room) (s : State) (args : Array Value) (own C : String) (index : Nat) (y : MethodName) (bytes : ByteArray) (maxL : Nat) (ret : Option FieldType) (hh : List (Nat × Nat × Nat × Nat)) (ws : List Cond) (rm : Room) (mc ms n : Nat) : Prop :=
  (rm.cells = mc ∧ rm.slots = ms ∧ rm.frames + 1 ≤ R.frames ∧ 8 + (maxL + 11) + rm.locals ≤ R.locals ∧ (∀ w ∈ ws, ∀ (a' : Array Value) (U : State), s.WarmedH U.vm → w.before a' U = true) ∧ Cond.codeWith y bytes maxL ret hh ∈ ws) ∧
  (Cond.codeWith y bytes maxL ret hh).before args s = true ∧ (Cond.initialized y.cls).before args s = true ∧ (y.cls ≠ "java/lang/invoke/MethodHandle" ∧ y.cls ≠ "java/lang/invoke/VarHandle") ∧
  (∀ sig, parseMethodDescriptor y.desc = some sig → n = sig.parameters.length) ∧ (Cond.methodLink own index y).before args s = true ∧ (Cond.instanceMethod y).before args s = true ∧ (Cond.selects C y y).before args s = true
theorem vx_cwVW {own C : String} {index maxL mc ms : Nat} {y : MethodName} {bytes : ByteArray} {ret : Option FieldType} {hh : List (Nat × Nat × Nat × Nat)} {Ts ws ws' : List Cond} {rm : Room} (n : Nat) (ht : ∀ w ∈ Ts, w.before args s = true) (hT : GoodIn Ts (wsV own index C y ws)) (hw : ws = Cond.codeWith y bytes maxL ret hh :: ws') (hrc : rm.cells = mc) (hrs : rm.slots = ms)
    (hd : y.cls = C ∧ y.cls ≠ "java/lang/invoke/MethodHandle" ∧ y.cls ≠ "java/lang/invoke/VarHandle" ∧ (parseMethodDescriptor y.desc).map (fun d => d.parameters.length) = some n) (hR : rm.frames + 1 ≤ R.frames ∧ 8 + (maxL + 11) + rm.locals ≤ R.locals) :
    vx_CVW R s args own C index y bytes maxL ret hh ws rm mc ms n := by
  obtain ⟨hC, hd⟩ := hd
  subst hC
  have ok : ∀ w ∈ wsV own index y.cls y ws, w.before args s = true := fun w h => ht w (hT w h).1
  have hG : GoodIn Ts ws := fun w h => hT w (by unfold wsV; exact List.mem_append_right _ h)
  have hc : Cond.codeWith y bytes maxL ret hh ∈ ws := by rw [hw]; exact List.mem_cons_self
  refine ⟨⟨hrc, hrs, hR.1, hR.2, pay_in ht hG, hc⟩, ht _ (hG _ hc).1, ok _ (by simp [wsV]), ⟨hd.1, hd.2.1⟩, fun sig h => ?_, ok _ (by simp [wsV]), ok _ (by simp [wsV]), ok _ (by simp [wsV])⟩
  have h2 := hd.2.2
  rw [h] at h2
  exact (Option.some.inj h2).symm
theorem vx_runVW {y : MethodName} {bytes cc : ByteArray} {maxL nL mc ms n index : Nat} {ret : Option FieldType} {hh : List (Nat × Nat × Nat × Nat)} {ws : List Cond} {rm : Room} {Pc : Array Value → State → Prop} {Qc : Array Value → State → Outcome → State → Prop} {free : Addr → Prop} {Ts : List Cond} {own C : String} {b : Addr} {As rest : List Value} {g : JFrame}
    (S : CallFix p m c cc nL s args Ts own) (hM : Met l y ws rm Pc Qc mc ms free) (cw : vx_CVW R s args own C index y bytes maxL ret hh ws rm mc ms n) (hp : PreV s H C b Pc As)
    (hg : g.method = m) (hn : As.length = n) (hsize : g.locals.size = nL) (hstack : g.stack = As.reverse ++ .ref b :: rest) (hW : 2 * g.monitorRoom + (rest.map fun v => v.category).sum ≤ 8) (hdg : decode cc g.pc = .ok (.invokevirtual index, 3)) (hf : cells + mc ≤ R.cells ∧ slots + ms ≤ R.slots) :
    va_Run p l e R s m args below meth c H locs cells slots mc ms g rest (Qc (Value.ref b :: As).toArray) free := by
  obtain ⟨⟨hrc, hrs, hfr, hlo, hws, hcw⟩, hcode, hini, hy, hlen, hl, hin, hse⟩ := cw
  have hK : Back l R p e below s args y 3 8 (PreOf R mc ms Pc) (PostOf Qc mc ms free) := va_backW (hh := hh) (bytes := bytes) (maxL := maxL) (ret := ret) hM hp.1 hrc hrs hfr hlo hws hcw (fun a' U hW => word_at hW (Or.inl (by first | rfl | simp [Cond.onTables, Cond.keeps, Cond.steady])) hini)
  obtain ⟨hx, hb, hml, ho, -⟩ := S
  obtain ⟨-, ⟨cellB, hcB, hoB, hclB⟩, hPc⟩ := hp
  intro T hT X
  obtain ⟨v, vm₁, ⟨U', l2, c2, s2⟩, hW₁, X', ⟨g', mk, t, L, e1, e2, hq, h1, hL, h2, h3⟩, st⟩ := vx_callVW X hx (C := C) (hh := hh) (bytes := bytes) (maxL := maxL) (ret := ret) ho hl hin hse hcode hy hK (by rw [hT]; exact hcB) hoB hclB hg (hsize.trans hml.symm) (argsL := As) (rest := rest) (fun sig h => hn.trans (hlen sig h)) hstack hW (by rw [hb]; exact hdg)
    (fun vm₁ hW₁ => ⟨hf.1, hf.2, hPc (T.setVm vm₁) hT hW₁⟩)
  dsimp only [Pt.U, Pt.locs, Pt.cells, Pt.slots] at X' e1 e2 h1 h2 h3 st
  subst h1; subst h2; subst h3
  exact ⟨v, (T.setVm vm₁).calling g' mk (Value.ref b :: As).toArray, t, U', L, hT, X', hL, e1, e2, hq, st⟩
section
variable {y : MethodName} {bytes cc : ByteArray} {maxL nL mc ms n index : Nat} {ret : Option FieldType} {ws : List Cond} {rm : Room} {Pc : Array Value → State → Prop} {Qc : Array Value → State → Outcome → State → Prop} {XC : String → State → State → Prop} {free : Addr → Prop} {Ts : List Cond} {own C : String} {b : Addr} {As rest : List Value} {g : JFrame}
theorem vx_runVX {hh : List (Nat × Nat × Nat × Nat)} (S : CallFix p m c cc nL s args Ts own) (hM : vx_Met l y ws rm Pc Qc XC mc ms free) (cw : vx_CVW R s args own C index y bytes maxL ret hh ws rm mc ms n) (hp : PreV s H C b Pc As)
    (hg : g.method = m) (hn : As.length = n) (hsize : g.locals.size = nL) (hstack : g.stack = As.reverse ++ .ref b :: rest) (hW : 2 * g.monitorRoom + (rest.map fun v => v.category).sum ≤ 8) (hdg : decode cc g.pc = .ok (.invokevirtual index, 3)) (hf : cells + mc ≤ R.cells ∧ slots + ms ≤ R.slots) :
    vx_Run p l e R s m args below meth c H locs cells slots mc ms g rest (Qc (Value.ref b :: As).toArray) XC free := by
  obtain ⟨⟨hrc, hrs, hfr, hlo, hws, hcw⟩, hcode, hini, hy, hlen, hl, hin, hse⟩ := cw
  have hK : vx_Back l R p e below s args y 3 8 (PreOf R mc ms Pc) (PostOf Qc mc ms free) (vx_Post XC mc ms free) := vx_backW (hh := hh) (bytes := bytes) (maxL := maxL) (ret := ret) hM hp.1 hrc hrs hfr hlo hws hcw (fun a' U hW => word_at hW (Or.inl (by first | rfl | simp [Cond.onTables, Cond.keeps, Cond.steady])) hini)
  obtain ⟨hx, hb, hml, ho, -⟩ := S
  obtain ⟨-, ⟨cellB, hcB, hoB, hclB⟩, hPc⟩ := hp
  intro T hT X
  rcases vx_callVX X hx (C := C) (hh := hh) (bytes := bytes) (maxL := maxL) (ret := ret) ho hl hin hse hcode hy hK (by rw [hT]; exact hcB) hoB hclB hg (hsize.trans hml.symm) (argsL := As) (rest := rest) (fun sig h => hn.trans (hlen sig h)) hstack hW (by rw [hb]; exact hdg)
    (fun vm₁ hW₁ => ⟨hf.1, hf.2, hPc (T.setVm vm₁) hT hW₁⟩) with ⟨v, vm₁, ⟨U', l2, c2, s2⟩, hW₁, X', ⟨g', mk, t, L, e1, e2, hq, h1, hL, h2, h3⟩, st⟩ | ⟨q, vm₁, ⟨U', l2, c2, s2⟩, hW₁, X', ⟨g', mk, t, L, E, ce, e1, e2, hq, hce, hcv, hcl, h1, hL, h2, h3⟩, st⟩
  · dsimp only [Pt.U, Pt.locs, Pt.cells, Pt.slots] at X' e1 e2 h1 h2 h3 st
    subst h1; subst h2; subst h3
    exact Or.inl ⟨v, (T.setVm vm₁).calling g' mk (Value.ref b :: As).toArray, t, U', L, hT, X', hL, e1, e2, hq, st⟩
  · dsimp only [Pt.U, Pt.locs, Pt.cells, Pt.slots] at X' e1 e2 h1 h2 h3 st hcl
    subst h1; subst h2; subst h3
    exact Or.inr ⟨q, (T.setVm vm₁).calling g' mk (Value.ref b :: As).toArray, t, U', L, E, ce, hT, X', hL, e1, e2, hq, hce, hcv, vx_cls hW₁ hcl, st⟩
theorem vx_runSX {hh : List (Nat × Nat × Nat × Nat)} (S : CallFix p m c cc nL s args Ts own) (hM : vx_Met l y ws rm Pc Qc XC mc ms free) (cw : vx_CSW R s args own index y bytes maxL ret hh ws rm mc ms n) (hp : PreS s H Pc As)
    (hg : g.method = m) (hn : As.length = n) (hsize : g.locals.size = nL) (hstack : g.stack = As.reverse ++ rest) (hW : 2 * g.monitorRoom + (rest.map fun v => v.category).sum ≤ 8) (hdg : decode cc g.pc = .ok (.invokestatic index, 3)) (hf : cells + mc ≤ R.cells ∧ slots + ms ≤ R.slots) :
    vx_Run p l e R s m args below meth c H locs cells slots mc ms g rest (Qc As.toArray) XC free := by
  obtain ⟨⟨hrc, hrs, hfr, hlo, hws, hcw⟩, hcode, hini, hy, hlen, hl, hstt⟩ := cw
  have hK : vx_Back l R p e below s args y 3 8 (PreOf R mc ms Pc) (PostOf Qc mc ms free) (vx_Post XC mc ms free) := vx_backW (hh := hh) (bytes := bytes) (maxL := maxL) (ret := ret) hM hp.1 hrc hrs hfr hlo hws hcw (fun a' U hW => word_at hW (Or.inl (by first | rfl | simp [Cond.onTables, Cond.keeps, Cond.steady])) hini)
  obtain ⟨hx, hb, hml, ho, -⟩ := S
  intro T hT X
  rcases vx_callSX X hx (hh := hh) (bytes := bytes) (maxL := maxL) (ret := ret) ho hl hstt hini hcode hy hK hg (hsize.trans hml.symm) (argsL := As) (rest := rest) (fun sig h => hn.trans (hlen sig h)) hstack hW (by rw [hb]; exact hdg)
    (fun vm₁ hW₁ => ⟨hf.1, hf.2, hp.2 (T.setVm vm₁) hT hW₁⟩) with ⟨v, vm₁, ⟨U', l2, c2, s2⟩, hW₁, X', ⟨g', mk, t, L, e1, e2, hq, h1, hL, h2, h3⟩, st⟩ | ⟨q, vm₁, ⟨U', l2, c2, s2⟩, hW₁, X', ⟨g', mk, t, L, E, ce, e1, e2, hq, hce, hcv, hcl, h1, hL, h2, h3⟩, st⟩
  · dsimp only [Pt.U, Pt.locs, Pt.cells, Pt.slots] at X' e1 e2 h1 h2 h3 st
    subst h1; subst h2; subst h3
    exact Or.inl ⟨v, (T.setVm vm₁).calling g' mk As.toArray, t, U', L, hT, X', hL, e1, e2, hq, st⟩
  · dsimp only [Pt.U, Pt.locs, Pt.cells, Pt.slots] at X' e1 e2 h1 h2 h3 st hcl
    subst h1; subst h2; subst h3
    exact Or.inr ⟨q, (T.setVm vm₁).calling g' mk As.toArray, t, U', L, E, ce, hT, X', hL, e1, e2, hq, hce, hcv, vx_cls hW₁ hcl, st⟩
end
end VXH
theorem vx_ofWH {l : Launch} {y : MethodName} {ws ws' : List Cond} {rm : Room} {Pc : Array Value → State → Prop} {Qc : Array Value → State → Outcome → State → Prop} {XC : String → State → State → Prop} {mc ms : Nat} {free : Addr → Prop} {cc : ByteArray} {maxL : Nat} {ret : Option FieldType} {hh : List (Nat × Nat × Nat × Nat)}
    (hy : plainName y.cls = true) (hw : ws = Cond.codeWith y cc maxL ret hh :: ws')
    (body : ∀ p e s m args below meth c s₁, BodyLoose p l y (headSpec ws rm) cc maxL ret e s m args below meth c s₁ → c.maxLocals = maxL → Pc args s →
      W p l e (headSpec ws rm).room s m args below meth c s.heap [] 0 0 (vx_MQ below Qc XC args s mc ms free) (entryFrame m args maxL)) : vx_Met l y ws rm Pc Qc XC mc ms free := by
  refine MetFree.of_bodyS (code := cc) (maxLocals := maxL) (ret := ret) hy ?_ ?_
  · intro args s m h hn
    obtain ⟨m9, meth, c, hn9, h1, h2, h3, h4, -, h5, h6, -⟩ := Cond.codeWith_spec (atoms_spec (ws := ws) h _ (by rw [hw]; exact List.mem_cons_self))
    cases hn.symm.trans hn9
    exact ⟨meth, c, h1, h2, h3, h4, h5, h6⟩
  · intro p e s m args below meth c s₁ B hml hP _
    have hh0 : s₁.heap = s.heap := by rw [B.state]; rfl
    obtain ⟨t, a1, o, b1, b2, b3⟩ := body p e s m args below meth c s₁ B hml hP s₁ hh0 (Stand.of_body B)
    exact ⟨t, o, a1, b1, b2, b3⟩
/-! ===== END ===== -/
end
section
def RX0 : String := "LendThreads$Diary"
def TX0 : u_T := fun k => match k with
  | _ => ("LendThreads$Diary", "lines", "LLendThreads$Rows;", true)
def tyX0 : Nat → FieldType := fun k => match k with
  | _ => .object "LendThreads$Rows"
abbrev wsX00 : List Cond := u_ws RX0 TX0 1
theorem nmX0 : ∀ a, a < 1 → ∀ b, b < 1 → a ≠ b → (TX0 a).2.1 ≠ (TX0 b).2.1 := by decide +kernel
theorem tyX0_ok : ∀ k, k < 1 → parseFieldDescriptor (TX0 k).2.2.1 = some (tyX0 k) := by decide +kernel
abbrev cX0_init : ByteArray := prog_2_method_1_code
def yX0_init : MethodName := ⟨RX0, "<init>", "()V"⟩
abbrev cX0_write : ByteArray := prog_2_method_2_code
def yX0_write : MethodName := ⟨RX0, "write", "(II)V"⟩
def RX1 : String := "LendThreads$Post"
def TX1 : u_T := fun k => match k with
  | 0 => ("LendThreads$Post", "there", "[I", true)
  | 1 => ("LendThreads$Post", "lost", "[I", true)
  | _ => ("LendThreads$Post", "toLose", "I", false)
def tyX1 : Nat → FieldType := fun k => match k with
  | 0 => .array .int
  | 1 => .array .int
  | _ => .int
abbrev wsX10 : List Cond := u_ws RX1 TX1 3
theorem nmX1 : ∀ a, a < 3 → ∀ b, b < 3 → a ≠ b → (TX1 a).2.1 ≠ (TX1 b).2.1 := by decide +kernel
theorem tyX1_ok : ∀ k, k < 3 → parseFieldDescriptor (TX1 k).2.2.1 = some (tyX1 k) := by decide +kernel
abbrev cX1_init : ByteArray := prog_3_method_1_code
def yX1_init : MethodName := ⟨RX1, "<init>", "()V"⟩
abbrev cX1_way : ByteArray := prog_3_method_2_code
def yX1_way : MethodName := ⟨RX1, "way", "(II)I"⟩
abbrev cX1_isWay : ByteArray := prog_3_method_3_code
def yX1_isWay : MethodName := ⟨RX1, "isWay", "(I)Z"⟩
abbrev cX1_countThere : ByteArray := prog_3_method_4_code
def yX1_countThere : MethodName := ⟨RX1, "countThere", "(I)I"⟩
abbrev cX1_send : ByteArray := prog_3_method_5_code
def yX1_send : MethodName := ⟨RX1, "send", "(I)V"⟩
abbrev cX1_take : ByteArray := prog_3_method_6_code
def yX1_take : MethodName := ⟨RX1, "take", "(I)Z"⟩
abbrev cX1_findLost : ByteArray := prog_3_method_7_code
def yX1_findLost : MethodName := ⟨RX1, "findLost", "(I)Z"⟩
def RX2 : String := "LendThreads$Rows"
def TX2 : u_T := fun k => match k with
  | 0 => ("LendThreads$Rows", "room", "I", true)
  | 1 => ("LendThreads$Rows", "counts", "[I", true)
  | _ => ("LendThreads$Rows", "items", "[I", true)
def tyX2 : Nat → FieldType := fun k => match k with
  | 0 => .int
  | 1 => .array .int
  | _ => .array .int
abbrev wsX20 : List Cond := u_ws RX2 TX2 3
theorem nmX2 : ∀ a, a < 3 → ∀ b, b < 3 → a ≠ b → (TX2 a).2.1 ≠ (TX2 b).2.1 := by decide +kernel
theorem tyX2_ok : ∀ k, k < 3 → parseFieldDescriptor (TX2 k).2.2.1 = some (tyX2 k) := by decide +kernel
abbrev cX2_init : ByteArray := prog_4_method_1_code
def yX2_init : MethodName := ⟨RX2, "<init>", "(II)V"⟩
abbrev cX2_count : ByteArray := prog_4_method_2_code
def yX2_count : MethodName := ⟨RX2, "count", "(I)I"⟩
abbrev cX2_item : ByteArray := prog_4_method_3_code
def yX2_item : MethodName := ⟨RX2, "item", "(II)I"⟩
abbrev cX2_add : ByteArray := prog_4_method_4_code
def yX2_add : MethodName := ⟨RX2, "add", "(II)I"⟩
abbrev cX2_placeOf : ByteArray := prog_4_method_5_code
def yX2_placeOf : MethodName := ⟨RX2, "placeOf", "(II)I"⟩
abbrev cX2_remove : ByteArray := prog_4_method_6_code
def yX2_remove : MethodName := ⟨RX2, "remove", "(II)V"⟩
def RX3 : String := "LendThreads$Shelf"
def TX3 : u_T := fun k => match k with
  | 0 => ("LendThreads$Shelf", "values", "[I", true)
  | 1 => ("LendThreads$Shelf", "valuesWhenTaken", "[I", true)
  | 2 => ("LendThreads$Shelf", "holders", "[I", true)
  | _ => ("LendThreads$Shelf", "lines", "LLendThreads$Rows;", true)
def tyX3 : Nat → FieldType := fun k => match k with
  | 0 => .array .int
  | 1 => .array .int
  | 2 => .array .int
  | _ => .object "LendThreads$Rows"
abbrev wsX30 : List Cond := u_ws RX3 TX3 4
theorem nmX3 : ∀ a, a < 4 → ∀ b, b < 4 → a ≠ b → (TX3 a).2.1 ≠ (TX3 b).2.1 := by decide +kernel
theorem tyX3_ok : ∀ k, k < 4 → parseFieldDescriptor (TX3 k).2.2.1 = some (tyX3 k) := by decide +kernel
abbrev cX3_init : ByteArray := prog_5_method_1_code
def yX3_init : MethodName := ⟨RX3, "<init>", "()V"⟩
abbrev cX3_isFreeFor : ByteArray := prog_5_method_2_code
def yX3_isFreeFor : MethodName := ⟨RX3, "isFreeFor", "(II)Z"⟩
abbrev cX3_take : ByteArray := prog_5_method_3_code
def yX3_take : MethodName := ⟨RX3, "take", "(II)V"⟩
abbrev cX3_standInLine : ByteArray := prog_5_method_4_code
def yX3_standInLine : MethodName := ⟨RX3, "standInLine", "(II)V"⟩
abbrev cX3_change : ByteArray := prog_5_method_5_code
def yX3_change : MethodName := ⟨RX3, "change", "(II)V"⟩
abbrev cX3_restore : ByteArray := prog_5_method_6_code
def yX3_restore : MethodName := ⟨RX3, "restore", "(I)V"⟩
abbrev cX3_release : ByteArray := prog_5_method_7_code
def yX3_release : MethodName := ⟨RX3, "release", "(I)V"⟩
abbrev cX3_countOf : ByteArray := prog_5_method_8_code
def yX3_countOf : MethodName := ⟨RX3, "countOf", "(I)I"⟩
abbrev cX3_holderAwaitedBy : ByteArray := prog_5_method_9_code
def yX3_holderAwaitedBy : MethodName := ⟨RX3, "holderAwaitedBy", "(I)I"⟩
def RX4 : String := "LendThreads$Work"
def TX4 : u_T := fun k => match k with
  | 0 => ("LendThreads$Work", "number", "I", true)
  | 1 => ("LendThreads$Work", "wanted", "LLendThreads$Rows;", true)
  | 2 => ("LendThreads$Work", "receivers", "LLendThreads$Rows;", true)
  | 3 => ("LendThreads$Work", "steps", "I", false)
  | 4 => ("LendThreads$Work", "failsAt", "I", false)
  | 5 => ("LendThreads$Work", "state", "I", false)
  | 6 => ("LendThreads$Work", "step", "I", false)
  | 7 => ("LendThreads$Work", "got", "I", false)
  | 8 => ("LendThreads$Work", "askedFor", "I", false)
  | 9 => ("LendThreads$Work", "begunAgain", "I", false)
  | 10 => ("LendThreads$Work", "hadTurn", "Z", false)
  | _ => ("LendThreads$Work", "latest", "I", false)
def tyX4 : Nat → FieldType := fun k => match k with
  | 0 => .int
  | 1 => .object "LendThreads$Rows"
  | 2 => .object "LendThreads$Rows"
  | 3 => .int
  | 4 => .int
  | 5 => .int
  | 6 => .int
  | 7 => .int
  | 8 => .int
  | 9 => .int
  | 10 => .boolean
  | _ => .int
abbrev wsX40 : List Cond := u_ws RX4 TX4 12
theorem nmX4 : ∀ a, a < 12 → ∀ b, b < 12 → a ≠ b → (TX4 a).2.1 ≠ (TX4 b).2.1 := by decide +kernel
theorem tyX4_ok : ∀ k, k < 12 → parseFieldDescriptor (TX4 k).2.2.1 = some (tyX4 k) := by decide +kernel
abbrev cX4_init : ByteArray := prog_6_method_1_code
def yX4_init : MethodName := ⟨RX4, "<init>", "(I)V"⟩
abbrev cX4_isStep : ByteArray := prog_6_method_2_code
def yX4_isStep : MethodName := ⟨RX4, "isStep", "(I)Z"⟩
abbrev cX4_gotAll : ByteArray := prog_6_method_3_code
def yX4_gotAll : MethodName := ⟨RX4, "gotAll", "()Z"⟩
abbrev cX4_beginAgain : ByteArray := prog_6_method_4_code
def yX4_beginAgain : MethodName := ⟨RX4, "beginAgain", "()V"⟩
def RX5 : String := "LendThreads"
def TX5 : u_T := fun k => match k with
  | 0 => ("LendThreads", "works", "[LLendThreads$Work;", true)
  | 1 => ("LendThreads", "workCount", "I", false)
  | 2 => ("LendThreads", "shelf", "LLendThreads$Shelf;", true)
  | 3 => ("LendThreads", "post", "LLendThreads$Post;", true)
  | _ => ("LendThreads", "diary", "LLendThreads$Diary;", true)
def tyX5 : Nat → FieldType := fun k => match k with
  | 0 => .array (.object "LendThreads$Work")
  | 1 => .int
  | 2 => .object "LendThreads$Shelf"
  | 3 => .object "LendThreads$Post"
  | _ => .object "LendThreads$Diary"
abbrev wsX50 : List Cond := u_ws RX5 TX5 5
theorem nmX5 : ∀ a, a < 5 → ∀ b, b < 5 → a ≠ b → (TX5 a).2.1 ≠ (TX5 b).2.1 := by decide +kernel
theorem tyX5_ok : ∀ k, k < 5 → parseFieldDescriptor (TX5 k).2.2.1 = some (tyX5 k) := by decide +kernel
abbrev cX5_init : ByteArray := prog_1_method_1_code
def yX5_init : MethodName := ⟨RX5, "<init>", "()V"⟩
abbrev cX5_work : ByteArray := prog_1_method_2_code
def yX5_work : MethodName := ⟨RX5, "work", "(II)I"⟩
abbrev cX5_wants : ByteArray := prog_1_method_3_code
def yX5_wants : MethodName := ⟨RX5, "wants", "(IIZI)I"⟩
abbrev cX5_sends : ByteArray := prog_1_method_4_code
def yX5_sends : MethodName := ⟨RX5, "sends", "(III)I"⟩
abbrev cX5_loses : ByteArray := prog_1_method_5_code
def yX5_loses : MethodName := ⟨RX5, "loses", "(I)I"⟩
abbrev cX5_turn : ByteArray := prog_1_method_6_code
def yX5_turn : MethodName := ⟨RX5, "turn", "(I)I"⟩
abbrev cX5_run : ByteArray := prog_1_method_7_code
def yX5_run : MethodName := ⟨RX5, "run", "()I"⟩
abbrev cX5_ring : ByteArray := prog_1_method_8_code
def yX5_ring : MethodName := ⟨RX5, "ring", "()I"⟩
abbrev cX5_interrupt : ByteArray := prog_1_method_9_code
def yX5_interrupt : MethodName := ⟨RX5, "interrupt", "(I)I"⟩
abbrev cX5_again : ByteArray := prog_1_method_10_code
def yX5_again : MethodName := ⟨RX5, "again", "(I)I"⟩
abbrev cX5_close : ByteArray := prog_1_method_11_code
def yX5_close : MethodName := ⟨RX5, "close", "()I"⟩
abbrev cX5_state : ByteArray := prog_1_method_12_code
def yX5_state : MethodName := ⟨RX5, "state", "(II)I"⟩
abbrev cX5_has : ByteArray := prog_1_method_13_code
def yX5_has : MethodName := ⟨RX5, "has", "(I)I"⟩
abbrev cX5_line : ByteArray := prog_1_method_14_code
def yX5_line : MethodName := ⟨RX5, "line", "(II)I"⟩
abbrev cX5_value : ByteArray := prog_1_method_15_code
def yX5_value : MethodName := ⟨RX5, "value", "(I)I"⟩
abbrev cX5_log : ByteArray := prog_1_method_16_code
def yX5_log : MethodName := ⟨RX5, "log", "(I)I"⟩
abbrev cX5_mail : ByteArray := prog_1_method_17_code
def yX5_mail : MethodName := ⟨RX5, "mail", "(II)I"⟩
abbrev cX5_find : ByteArray := prog_1_method_18_code
def yX5_find : MethodName := ⟨RX5, "find", "(I)LLendThreads$Work;"⟩
abbrev cX5_isWork : ByteArray := prog_1_method_19_code
def yX5_isWork : MethodName := ⟨RX5, "isWork", "(I)Z"⟩
abbrev cX5_isOther : ByteArray := prog_1_method_20_code
def yX5_isOther : MethodName := ⟨RX5, "isOther", "(II)Z"⟩
abbrev cX5_isCopy : ByteArray := prog_1_method_21_code
def yX5_isCopy : MethodName := ⟨RX5, "isCopy", "(I)Z"⟩
abbrev cX5_isWaiting : ByteArray := prog_1_method_22_code
def yX5_isWaiting : MethodName := ⟨RX5, "isWaiting", "(I)Z"⟩
abbrev cX5_takeTurn : ByteArray := prog_1_method_23_code
def yX5_takeTurn : MethodName := ⟨RX5, "takeTurn", "(LLendThreads$Work;)I"⟩
abbrev cX5_goForNext : ByteArray := prog_1_method_24_code
def yX5_goForNext : MethodName := ⟨RX5, "goForNext", "(LLendThreads$Work;)I"⟩
abbrev cX5_goForCopy : ByteArray := prog_1_method_25_code
def yX5_goForCopy : MethodName := ⟨RX5, "goForCopy", "(LLendThreads$Work;I)I"⟩
abbrev cX5_goForMessage : ByteArray := prog_1_method_26_code
def yX5_goForMessage : MethodName := ⟨RX5, "goForMessage", "(LLendThreads$Work;I)I"⟩
abbrev cX5_actOrFail : ByteArray := prog_1_method_27_code
def yX5_actOrFail : MethodName := ⟨RX5, "actOrFail", "(LLendThreads$Work;)I"⟩
abbrev cX5_sendAll : ByteArray := prog_1_method_28_code
def yX5_sendAll : MethodName := ⟨RX5, "sendAll", "(LLendThreads$Work;)V"⟩
abbrev cX5_undo : ByteArray := prog_1_method_29_code
def yX5_undo : MethodName := ⟨RX5, "undo", "(LLendThreads$Work;I)V"⟩
abbrev cX5_greatestInRingOf : ByteArray := prog_1_method_30_code
def yX5_greatestInRingOf : MethodName := ⟨RX5, "greatestInRingOf", "(I)I"⟩
def RX6 : String := "LendThreadsModel"
def TX6 : u_T := fun k => match k with
  | 0 => ("LendThreadsModel", "thrown", "I", false)
  | 1 => ("LendThreadsModel", "works", "I", false)
  | 2 => ("LendThreadsModel", "steps", "[I", true)
  | 3 => ("LendThreadsModel", "failsAt", "[I", true)
  | 4 => ("LendThreadsModel", "state", "[I", true)
  | 5 => ("LendThreadsModel", "step", "[I", true)
  | 6 => ("LendThreadsModel", "got", "[I", true)
  | 7 => ("LendThreadsModel", "latest", "[I", true)
  | 8 => ("LendThreadsModel", "begun", "[Z", true)
  | 9 => ("LendThreadsModel", "asked", "[I", true)
  | 10 => ("LendThreadsModel", "again", "[I", true)
  | 11 => ("LendThreadsModel", "waitsFor", "[I", true)
  | 12 => ("LendThreadsModel", "since", "[I", true)
  | 13 => ("LendThreadsModel", "clock", "I", false)
  | 14 => ("LendThreadsModel", "wantCount", "[I", true)
  | 15 => ("LendThreadsModel", "want", "[I", true)
  | 16 => ("LendThreadsModel", "sendCount", "[I", true)
  | 17 => ("LendThreadsModel", "send", "[I", true)
  | 18 => ("LendThreadsModel", "owner", "[I", true)
  | 19 => ("LendThreadsModel", "value", "[I", true)
  | 20 => ("LendThreadsModel", "there", "[I", true)
  | 21 => ("LendThreadsModel", "lost", "[I", true)
  | 22 => ("LendThreadsModel", "losing", "I", false)
  | 23 => ("LendThreadsModel", "changes", "I", false)
  | 24 => ("LendThreadsModel", "changedBy", "[I", true)
  | 25 => ("LendThreadsModel", "changed", "[I", true)
  | 26 => ("LendThreadsModel", "before", "[I", true)
  | 27 => ("LendThreadsModel", "logged", "I", false)
  | _ => ("LendThreadsModel", "log", "[I", true)
def tyX6 : Nat → FieldType := fun k => match k with
  | 0 => .int
  | 1 => .int
  | 2 => .array .int
  | 3 => .array .int
  | 4 => .array .int
  | 5 => .array .int
  | 6 => .array .int
  | 7 => .array .int
  | 8 => .array .boolean
  | 9 => .array .int
  | 10 => .array .int
  | 11 => .array .int
  | 12 => .array .int
  | 13 => .int
  | 14 => .array .int
  | 15 => .array .int
  | 16 => .array .int
  | 17 => .array .int
  | 18 => .array .int
  | 19 => .array .int
  | 20 => .array .int
  | 21 => .array .int
  | 22 => .int
  | 23 => .int
  | 24 => .array .int
  | 25 => .array .int
  | 26 => .array .int
  | 27 => .int
  | _ => .array .int
abbrev wsX60 : List Cond := u_ws RX6 TX6 29
theorem nmX6 : ∀ a, a < 29 → ∀ b, b < 29 → a ≠ b → (TX6 a).2.1 ≠ (TX6 b).2.1 := by decide +kernel
theorem tyX6_ok : ∀ k, k < 29 → parseFieldDescriptor (TX6 k).2.2.1 = some (tyX6 k) := by decide +kernel
abbrev cX6_init : ByteArray := prog_8_method_1_code
def yX6_init : MethodName := ⟨RX6, "<init>", "()V"⟩
abbrev cX6_in : ByteArray := prog_8_method_3_code
def yX6_in : MethodName := ⟨RX6, "in", "(III)Z"⟩
abbrev cX6_isWork : ByteArray := prog_8_method_4_code
def yX6_isWork : MethodName := ⟨RX6, "isWork", "(I)Z"⟩
abbrev cX6_work : ByteArray := prog_8_method_5_code
def yX6_work : MethodName := ⟨RX6, "work", "(II)I"⟩
abbrev cX6_isStep : ByteArray := prog_8_method_6_code
def yX6_isStep : MethodName := ⟨RX6, "isStep", "(II)Z"⟩
abbrev cX6_wants : ByteArray := prog_8_method_7_code
def yX6_wants : MethodName := ⟨RX6, "wants", "(IIZI)I"⟩
abbrev cX6_sends : ByteArray := prog_8_method_8_code
def yX6_sends : MethodName := ⟨RX6, "sends", "(III)I"⟩
abbrev cX6_loses : ByteArray := prog_8_method_9_code
def yX6_loses : MethodName := ⟨RX6, "loses", "(I)I"⟩
abbrev cX6_ahead : ByteArray := prog_8_method_10_code
def yX6_ahead : MethodName := ⟨RX6, "ahead", "(II)I"⟩
abbrev cX6_takes : ByteArray := prog_8_method_11_code
def yX6_takes : MethodName := ⟨RX6, "takes", "(II)I"⟩
abbrev cX6_hears : ByteArray := prog_8_method_12_code
def yX6_hears : MethodName := ⟨RX6, "hears", "(II)I"⟩
abbrev cX6_frees : ByteArray := prog_8_method_13_code
def yX6_frees : MethodName := ⟨RX6, "frees", "(I)V"⟩
abbrev cX6_undo : ByteArray := prog_8_method_14_code
def yX6_undo : MethodName := ⟨RX6, "undo", "(II)V"⟩
abbrev cX6_acts : ByteArray := prog_8_method_15_code
def yX6_acts : MethodName := ⟨RX6, "acts", "(I)V"⟩
abbrev cX6_does : ByteArray := prog_8_method_16_code
def yX6_does : MethodName := ⟨RX6, "does", "(I)I"⟩
abbrev cX6_turn : ByteArray := prog_8_method_17_code
def yX6_turn : MethodName := ⟨RX6, "turn", "(I)I"⟩
abbrev cX6_run : ByteArray := prog_8_method_18_code
def yX6_run : MethodName := ⟨RX6, "run", "()I"⟩
abbrev cX6_waitsOn : ByteArray := prog_8_method_19_code
def yX6_waitsOn : MethodName := ⟨RX6, "waitsOn", "(I)I"⟩
abbrev cX6_ring : ByteArray := prog_8_method_20_code
def yX6_ring : MethodName := ⟨RX6, "ring", "()I"⟩
abbrev cX6_interrupt : ByteArray := prog_8_method_21_code
def yX6_interrupt : MethodName := ⟨RX6, "interrupt", "(I)I"⟩
abbrev cX6_again : ByteArray := prog_8_method_22_code
def yX6_again : MethodName := ⟨RX6, "again", "(I)I"⟩
abbrev cX6_close : ByteArray := prog_8_method_23_code
def yX6_close : MethodName := ⟨RX6, "close", "()I"⟩
abbrev cX6_state : ByteArray := prog_8_method_24_code
def yX6_state : MethodName := ⟨RX6, "state", "(II)I"⟩
abbrev cX6_has : ByteArray := prog_8_method_25_code
def yX6_has : MethodName := ⟨RX6, "has", "(I)I"⟩
abbrev cX6_line : ByteArray := prog_8_method_26_code
def yX6_line : MethodName := ⟨RX6, "line", "(II)I"⟩
abbrev cX6_value : ByteArray := prog_8_method_27_code
def yX6_value : MethodName := ⟨RX6, "value", "(I)I"⟩
abbrev cX6_log : ByteArray := prog_8_method_28_code
def yX6_log : MethodName := ⟨RX6, "log", "(I)I"⟩
abbrev cX6_mail : ByteArray := prog_8_method_29_code
def yX6_mail : MethodName := ⟨RX6, "mail", "(II)I"⟩
def RJ9 : String := "java/lang/Math"
def TJ9 : u_T := fun k => match k with
  | _ => ("", "", "", false)
def tyJ9 : Nat → FieldType := fun k => match k with
  | _ => .int
abbrev wsJ90 : List Cond := u_ws RJ9 TJ9 0
theorem nmJ9 : ∀ a, a < 0 → ∀ b, b < 0 → a ≠ b → (TJ9 a).2.1 ≠ (TJ9 b).2.1 := by decide +kernel
theorem tyJ9_ok : ∀ k, k < 0 → parseFieldDescriptor (TJ9 k).2.2.1 = some (tyJ9 k) := by decide +kernel
abbrev cJ9_max_7cf53 : ByteArray := prog_11_method_65_code
def yJ9_max_7cf53 : MethodName := ⟨RJ9, "max", "(II)I"⟩
def RJ0 : String := "java/lang/String"
def TJ0 : u_T := fun k => match k with
  | _ => ("", "", "", false)
def tyJ0 : Nat → FieldType := fun k => match k with
  | _ => .int
abbrev wsJ00 : List Cond := u_ws RJ0 TJ0 0
theorem nmJ0 : ∀ a, a < 0 → ∀ b, b < 0 → a ≠ b → (TJ0 a).2.1 ≠ (TJ0 b).2.1 := by decide +kernel
theorem tyJ0_ok : ∀ k, k < 0 → parseFieldDescriptor (TJ0 k).2.2.1 = some (tyJ0 k) := by decide +kernel
def RJ7 : String := "java/util/Arrays"
def TJ7 : u_T := fun k => match k with
  | _ => ("", "", "", false)
def tyJ7 : Nat → FieldType := fun k => match k with
  | _ => .int
abbrev wsJ70 : List Cond := u_ws RJ7 TJ7 0
theorem nmJ7 : ∀ a, a < 0 → ∀ b, b < 0 → a ≠ b → (TJ7 a).2.1 ≠ (TJ7 b).2.1 := by decide +kernel
theorem tyJ7_ok : ∀ k, k < 0 → parseFieldDescriptor (TJ7 k).2.2.1 = some (tyJ7 k) := by decide +kernel
abbrev cJ7_fill_53178 : ByteArray := prog_15_method_103_code
def yJ7_fill_53178 : MethodName := ⟨RJ7, "fill", "([II)V"⟩
def RL : String := "LendThreadsLaw"
abbrev cL_value : ByteArray := method_3_code
def yL_value : MethodName := ⟨RL, "value", "(LLendThreads;I[J)I"⟩
abbrev cL_law : ByteArray := code
def yL_law : MethodName := ⟨RL, "law", "([I)Z"⟩
def wsX2_init : List Cond := .code yX2_init cX2_init 3 none :: ([.methodLink RX2 3 objectInit, .instanceMethod objectInit, .code objectInit ⟨#[0xb1]⟩ 1 none, .fieldLink RX2 9 "LendThreads$Rows" "room" "I", .arrayClass .int, .fieldLink RX2 15 "LendThreads$Rows" "counts" "[I", .fieldLink RX2 19 "LendThreads$Rows" "items" "[I"] ++ wsX20)
def wsX0_init : List Cond := .code yX0_init cX0_init 1 none :: ([.methodLink RX0 3 objectInit, .instanceMethod objectInit, .code objectInit ⟨#[0xb1]⟩ 1 none, .classLink RX0 9 RX2, .instantiable RX2 3, .initialized RX2, .fieldLink RX0 14 "LendThreads$Diary" "lines" "LLendThreads$Rows;", .methodLink RX0 11 yX2_init, .instanceMethod yX2_init, .code yX2_init cX2_init 3 none, .methodLink RX2 3 objectInit, .fieldLink RX2 9 "LendThreads$Rows" "room" "I", .arrayClass .int, .fieldLink RX2 15 "LendThreads$Rows" "counts" "[I", .fieldLink RX2 19 "LendThreads$Rows" "items" "[I"] ++ wsX20 ++ wsX00)
def wsX2_add : List Cond := .code yX2_add cX2_add 3 (some .int) :: ([.fieldLink RX2 15 "LendThreads$Rows" "counts" "[I", .fieldLink RX2 9 "LendThreads$Rows" "room" "I", .fieldLink RX2 19 "LendThreads$Rows" "items" "[I"] ++ wsX20)
def wsX0_write : List Cond := .code yX0_write cX0_write 3 none :: ([.fieldLink RX0 14 "LendThreads$Diary" "lines" "LLendThreads$Rows;", .methodLink RX0 20 yX2_add, .instanceMethod yX2_add, .selects RX2 yX2_add yX2_add, .initialized RX2, .code yX2_add cX2_add 3 (some .int), .fieldLink RX2 15 "LendThreads$Rows" "counts" "[I", .fieldLink RX2 9 "LendThreads$Rows" "room" "I", .fieldLink RX2 19 "LendThreads$Rows" "items" "[I"] ++ wsX00 ++ wsX20)
def wsX1_init : List Cond := .code yX1_init cX1_init 1 none :: ([.methodLink RX1 3 objectInit, .instanceMethod objectInit, .code objectInit ⟨#[0xb1]⟩ 1 none, .arrayClass .int, .fieldLink RX1 9 "LendThreads$Post" "there" "[I", .fieldLink RX1 15 "LendThreads$Post" "lost" "[I"] ++ wsX10)
def wsX1_way : List Cond := .code yX1_way cX1_way 2 (some .int) :: ([])
def wsX1_isWay : List Cond := .code yX1_isWay cX1_isWay 2 (some .boolean) :: ([.fieldLink RX1 9 "LendThreads$Post" "there" "[I", .fieldLink RX1 15 "LendThreads$Post" "lost" "[I"] ++ wsX10)
def wsX1_countThere : List Cond := .code yX1_countThere cX1_countThere 2 (some .int) :: ([.fieldLink RX1 9 "LendThreads$Post" "there" "[I", .methodLink RX1 18 yX1_isWay, .instanceMethod yX1_isWay, .selects RX1 yX1_isWay yX1_isWay, .initialized RX1, .code yX1_isWay cX1_isWay 2 (some .boolean), .fieldLink RX1 15 "LendThreads$Post" "lost" "[I"] ++ wsX10)
def wsX1_send : List Cond := .code yX1_send cX1_send 2 none :: ([.fieldLink RX1 22 "LendThreads$Post" "toLose" "I", .fieldLink RX1 15 "LendThreads$Post" "lost" "[I", .fieldLink RX1 9 "LendThreads$Post" "there" "[I", .methodLink RX1 18 yX1_isWay, .instanceMethod yX1_isWay, .selects RX1 yX1_isWay yX1_isWay, .initialized RX1, .code yX1_isWay cX1_isWay 2 (some .boolean)] ++ wsX10)
def wsX1_take : List Cond := .code yX1_take cX1_take 2 (some .boolean) :: ([.fieldLink RX1 9 "LendThreads$Post" "there" "[I", .methodLink RX1 18 yX1_isWay, .instanceMethod yX1_isWay, .selects RX1 yX1_isWay yX1_isWay, .initialized RX1, .code yX1_isWay cX1_isWay 2 (some .boolean), .fieldLink RX1 15 "LendThreads$Post" "lost" "[I"] ++ wsX10)
def wsX1_findLost : List Cond := .code yX1_findLost cX1_findLost 2 (some .boolean) :: ([.fieldLink RX1 15 "LendThreads$Post" "lost" "[I", .fieldLink RX1 9 "LendThreads$Post" "there" "[I", .methodLink RX1 18 yX1_isWay, .instanceMethod yX1_isWay, .selects RX1 yX1_isWay yX1_isWay, .initialized RX1, .code yX1_isWay cX1_isWay 2 (some .boolean)] ++ wsX10)
def wsX2_count : List Cond := .code yX2_count cX2_count 2 (some .int) :: ([.fieldLink RX2 15 "LendThreads$Rows" "counts" "[I"] ++ wsX20)
def wsX2_item : List Cond := .code yX2_item cX2_item 3 (some .int) :: ([.fieldLink RX2 19 "LendThreads$Rows" "items" "[I", .fieldLink RX2 9 "LendThreads$Rows" "room" "I", .methodLink RX2 22 yX2_count, .instanceMethod yX2_count, .selects RX2 yX2_count yX2_count, .initialized RX2, .code yX2_count cX2_count 2 (some .int), .fieldLink RX2 15 "LendThreads$Rows" "counts" "[I"] ++ wsX20)
def wsX2_placeOf : List Cond := .code yX2_placeOf cX2_placeOf 5 (some .int) :: ([.fieldLink RX2 19 "LendThreads$Rows" "items" "[I", .fieldLink RX2 9 "LendThreads$Rows" "room" "I", .methodLink RX2 22 yX2_count, .instanceMethod yX2_count, .selects RX2 yX2_count yX2_count, .initialized RX2, .code yX2_count cX2_count 2 (some .int), .fieldLink RX2 15 "LendThreads$Rows" "counts" "[I"] ++ wsX20)
def wsX2_remove : List Cond := .code yX2_remove cX2_remove 5 none :: ([.fieldLink RX2 15 "LendThreads$Rows" "counts" "[I", .fieldLink RX2 19 "LendThreads$Rows" "items" "[I", .fieldLink RX2 9 "LendThreads$Rows" "room" "I", .methodLink RX2 26 yX2_placeOf, .instanceMethod yX2_placeOf, .selects RX2 yX2_placeOf yX2_placeOf, .initialized RX2, .code yX2_placeOf cX2_placeOf 5 (some .int), .methodLink RX2 22 yX2_count, .instanceMethod yX2_count, .selects RX2 yX2_count yX2_count, .code yX2_count cX2_count 2 (some .int)] ++ wsX20)
def wsJ7_fill_53178 : List Cond := .code yJ7_fill_53178 cJ7_fill_53178 4 none :: ([])
def wsX3_init : List Cond := .code yX3_init cX3_init 1 none :: ([.methodLink RX3 3 objectInit, .instanceMethod objectInit, .code objectInit ⟨#[0xb1]⟩ 1 none, .arrayClass .int, .fieldLink RX3 9 "LendThreads$Shelf" "values" "[I", .fieldLink RX3 15 "LendThreads$Shelf" "valuesWhenTaken" "[I", .fieldLink RX3 18 "LendThreads$Shelf" "holders" "[I", .classLink RX3 21 RX2, .instantiable RX2 3, .initialized RX2, .fieldLink RX3 26 "LendThreads$Shelf" "lines" "LLendThreads$Rows;", .methodLink RX3 23 yX2_init, .instanceMethod yX2_init, .code yX2_init cX2_init 3 none, .methodLink RX2 3 objectInit, .fieldLink RX2 9 "LendThreads$Rows" "room" "I", .fieldLink RX2 15 "LendThreads$Rows" "counts" "[I", .fieldLink RX2 19 "LendThreads$Rows" "items" "[I", .methodLink RX3 30 yJ7_fill_53178, .static yJ7_fill_53178, .initialized RJ7, .code yJ7_fill_53178 cJ7_fill_53178 4 none] ++ wsX30 ++ wsX20)
def wsX3_isFreeFor : List Cond := .code yX3_isFreeFor cX3_isFreeFor 4 (some .boolean) :: ([.fieldLink RX3 26 "LendThreads$Shelf" "lines" "LLendThreads$Rows;", .fieldLink RX3 18 "LendThreads$Shelf" "holders" "[I", .methodLink RX3 36 yX2_item, .instanceMethod yX2_item, .selects RX2 yX2_item yX2_item, .initialized RX2, .code yX2_item cX2_item 3 (some .int), .fieldLink RX2 19 "LendThreads$Rows" "items" "[I", .fieldLink RX2 9 "LendThreads$Rows" "room" "I", .methodLink RX2 22 yX2_count, .instanceMethod yX2_count, .selects RX2 yX2_count yX2_count, .code yX2_count cX2_count 2 (some .int), .fieldLink RX2 15 "LendThreads$Rows" "counts" "[I"] ++ wsX30 ++ wsX20)
def wsX3_take : List Cond := .code yX3_take cX3_take 3 none :: ([.fieldLink RX3 26 "LendThreads$Shelf" "lines" "LLendThreads$Rows;", .fieldLink RX3 18 "LendThreads$Shelf" "holders" "[I", .fieldLink RX3 15 "LendThreads$Shelf" "valuesWhenTaken" "[I", .fieldLink RX3 9 "LendThreads$Shelf" "values" "[I", .methodLink RX3 40 yX2_remove, .instanceMethod yX2_remove, .selects RX2 yX2_remove yX2_remove, .initialized RX2, .code yX2_remove cX2_remove 5 none, .fieldLink RX2 15 "LendThreads$Rows" "counts" "[I", .fieldLink RX2 19 "LendThreads$Rows" "items" "[I", .fieldLink RX2 9 "LendThreads$Rows" "room" "I", .methodLink RX2 26 yX2_placeOf, .instanceMethod yX2_placeOf, .selects RX2 yX2_placeOf yX2_placeOf, .code yX2_placeOf cX2_placeOf 5 (some .int), .methodLink RX2 22 yX2_count, .instanceMethod yX2_count, .selects RX2 yX2_count yX2_count, .code yX2_count cX2_count 2 (some .int)] ++ wsX30 ++ wsX20)
def wsX3_standInLine : List Cond := .code yX3_standInLine cX3_standInLine 3 none :: ([.fieldLink RX3 26 "LendThreads$Shelf" "lines" "LLendThreads$Rows;", .methodLink RX3 43 yX2_placeOf, .instanceMethod yX2_placeOf, .selects RX2 yX2_placeOf yX2_placeOf, .initialized RX2, .code yX2_placeOf cX2_placeOf 5 (some .int), .fieldLink RX2 19 "LendThreads$Rows" "items" "[I", .fieldLink RX2 9 "LendThreads$Rows" "room" "I", .methodLink RX2 22 yX2_count, .instanceMethod yX2_count, .selects RX2 yX2_count yX2_count, .code yX2_count cX2_count 2 (some .int), .fieldLink RX2 15 "LendThreads$Rows" "counts" "[I", .methodLink RX3 46 yX2_add, .instanceMethod yX2_add, .selects RX2 yX2_add yX2_add, .code yX2_add cX2_add 3 (some .int)] ++ wsX30 ++ wsX20)
def wsX3_change : List Cond := .code yX3_change cX3_change 4 none :: ([.fieldLink RX3 18 "LendThreads$Shelf" "holders" "[I", .fieldLink RX3 9 "LendThreads$Shelf" "values" "[I"] ++ wsX30)
def wsX3_restore : List Cond := .code yX3_restore cX3_restore 3 none :: ([.fieldLink RX3 18 "LendThreads$Shelf" "holders" "[I", .fieldLink RX3 9 "LendThreads$Shelf" "values" "[I", .fieldLink RX3 15 "LendThreads$Shelf" "valuesWhenTaken" "[I"] ++ wsX30)
def wsX3_release : List Cond := .code yX3_release cX3_release 3 none :: ([.fieldLink RX3 26 "LendThreads$Shelf" "lines" "LLendThreads$Rows;", .fieldLink RX3 18 "LendThreads$Shelf" "holders" "[I", .methodLink RX3 40 yX2_remove, .instanceMethod yX2_remove, .selects RX2 yX2_remove yX2_remove, .initialized RX2, .code yX2_remove cX2_remove 5 none, .fieldLink RX2 15 "LendThreads$Rows" "counts" "[I", .fieldLink RX2 19 "LendThreads$Rows" "items" "[I", .fieldLink RX2 9 "LendThreads$Rows" "room" "I", .methodLink RX2 26 yX2_placeOf, .instanceMethod yX2_placeOf, .selects RX2 yX2_placeOf yX2_placeOf, .code yX2_placeOf cX2_placeOf 5 (some .int), .methodLink RX2 22 yX2_count, .instanceMethod yX2_count, .selects RX2 yX2_count yX2_count, .code yX2_count cX2_count 2 (some .int)] ++ wsX30 ++ wsX20)
def wsX3_countOf : List Cond := .code yX3_countOf cX3_countOf 4 (some .int) :: ([.fieldLink RX3 18 "LendThreads$Shelf" "holders" "[I"] ++ wsX30)
def wsX3_holderAwaitedBy : List Cond := .code yX3_holderAwaitedBy cX3_holderAwaitedBy 3 (some .int) :: ([.fieldLink RX3 26 "LendThreads$Shelf" "lines" "LLendThreads$Rows;", .fieldLink RX3 18 "LendThreads$Shelf" "holders" "[I", .methodLink RX3 43 yX2_placeOf, .instanceMethod yX2_placeOf, .selects RX2 yX2_placeOf yX2_placeOf, .initialized RX2, .code yX2_placeOf cX2_placeOf 5 (some .int), .fieldLink RX2 19 "LendThreads$Rows" "items" "[I", .fieldLink RX2 9 "LendThreads$Rows" "room" "I", .methodLink RX2 22 yX2_count, .instanceMethod yX2_count, .selects RX2 yX2_count yX2_count, .code yX2_count cX2_count 2 (some .int), .fieldLink RX2 15 "LendThreads$Rows" "counts" "[I"] ++ wsX30 ++ wsX20)
def wsX4_init : List Cond := .code yX4_init cX4_init 2 none :: ([.methodLink RX4 3 objectInit, .instanceMethod objectInit, .code objectInit ⟨#[0xb1]⟩ 1 none, .classLink RX4 9 RX2, .instantiable RX2 3, .initialized RX2, .fieldLink RX4 14 "LendThreads$Work" "wanted" "LLendThreads$Rows;", .fieldLink RX4 20 "LendThreads$Work" "receivers" "LLendThreads$Rows;", .fieldLink RX4 23 "LendThreads$Work" "failsAt" "I", .fieldLink RX4 27 "LendThreads$Work" "state" "I", .fieldLink RX4 30 "LendThreads$Work" "latest" "I", .fieldLink RX4 33 "LendThreads$Work" "number" "I", .methodLink RX4 11 yX2_init, .instanceMethod yX2_init, .code yX2_init cX2_init 3 none, .methodLink RX2 3 objectInit, .fieldLink RX2 9 "LendThreads$Rows" "room" "I", .arrayClass .int, .fieldLink RX2 15 "LendThreads$Rows" "counts" "[I", .fieldLink RX2 19 "LendThreads$Rows" "items" "[I"] ++ wsX20 ++ wsX40)
def wsX4_isStep : List Cond := .code yX4_isStep cX4_isStep 2 (some .boolean) :: ([.fieldLink RX4 36 "LendThreads$Work" "steps" "I"] ++ wsX40)
def wsX4_gotAll : List Cond := .code yX4_gotAll cX4_gotAll 1 (some .boolean) :: ([.fieldLink RX4 39 "LendThreads$Work" "got" "I", .fieldLink RX4 14 "LendThreads$Work" "wanted" "LLendThreads$Rows;", .fieldLink RX4 42 "LendThreads$Work" "step" "I", .methodLink RX4 45 yX2_count, .instanceMethod yX2_count, .selects RX2 yX2_count yX2_count, .initialized RX2, .code yX2_count cX2_count 2 (some .int), .fieldLink RX2 15 "LendThreads$Rows" "counts" "[I"] ++ wsX40 ++ wsX20)
def wsX4_beginAgain : List Cond := .code yX4_beginAgain cX4_beginAgain 1 none :: ([.fieldLink RX4 27 "LendThreads$Work" "state" "I", .fieldLink RX4 42 "LendThreads$Work" "step" "I", .fieldLink RX4 39 "LendThreads$Work" "got" "I", .fieldLink RX4 23 "LendThreads$Work" "failsAt" "I", .fieldLink RX4 30 "LendThreads$Work" "latest" "I", .fieldLink RX4 49 "LendThreads$Work" "begunAgain" "I"] ++ wsX40)
def wsX5_init_r1 : List Cond := [Cond.methodLink RX5 1 objectInit, Cond.instanceMethod objectInit, Cond.code objectInit ⟨#[0xb1]⟩ 1 none, Cond.classLink RX5 9 RX4, Cond.fieldLink RX5 11 "LendThreads" "works" "[LLendThreads$Work;", Cond.classLink RX5 15 RX3, Cond.instantiable RX3 4, Cond.initialized RX3, Cond.fieldLink RX5 18 "LendThreads" "shelf" "LLendThreads$Shelf;", Cond.classLink RX5 22 RX1, Cond.instantiable RX1 3, Cond.initialized RX1, Cond.fieldLink RX5 25 "LendThreads" "post" "LLendThreads$Post;", Cond.classLink RX5 29 RX0, Cond.instantiable RX0 1, Cond.initialized RX0, Cond.fieldLink RX5 32 "LendThreads" "diary" "LLendThreads$Diary;", Cond.instantiable RX4 12, Cond.initialized RX4, Cond.methodLink RX5 17 yX3_init, Cond.instanceMethod yX3_init, Cond.code yX3_init cX3_init 1 none, Cond.methodLink RX3 3 objectInit, Cond.arrayClass .int]
def wsX5_init_r2 : List Cond := [Cond.fieldLink RX3 9 "LendThreads$Shelf" "values" "[I", Cond.fieldLink RX3 15 "LendThreads$Shelf" "valuesWhenTaken" "[I", Cond.fieldLink RX3 18 "LendThreads$Shelf" "holders" "[I", Cond.classLink RX3 21 RX2, Cond.instantiable RX2 3, Cond.initialized RX2, Cond.fieldLink RX3 26 "LendThreads$Shelf" "lines" "LLendThreads$Rows;", Cond.methodLink RX3 23 yX2_init, Cond.instanceMethod yX2_init, Cond.code yX2_init cX2_init 3 none, Cond.methodLink RX2 3 objectInit, Cond.fieldLink RX2 9 "LendThreads$Rows" "room" "I", Cond.fieldLink RX2 15 "LendThreads$Rows" "counts" "[I", Cond.fieldLink RX2 19 "LendThreads$Rows" "items" "[I", Cond.methodLink RX3 30 yJ7_fill_53178, Cond.static yJ7_fill_53178, Cond.initialized RJ7, Cond.code yJ7_fill_53178 cJ7_fill_53178 4 none, Cond.instanceMethod yX1_init, Cond.code yX1_init cX1_init 1 none, Cond.methodLink RX1 3 objectInit, Cond.fieldLink RX1 9 "LendThreads$Post" "there" "[I", Cond.fieldLink RX1 15 "LendThreads$Post" "lost" "[I", Cond.instanceMethod yX0_init]
def wsX5_init_r3 : List Cond := [Cond.code yX0_init cX0_init 1 none, Cond.methodLink RX0 3 objectInit, Cond.classLink RX0 9 RX2, Cond.fieldLink RX0 14 "LendThreads$Diary" "lines" "LLendThreads$Rows;", Cond.methodLink RX0 11 yX2_init, Cond.methodLink RX5 36 yX4_init, Cond.instanceMethod yX4_init, Cond.code yX4_init cX4_init 2 none, Cond.methodLink RX4 3 objectInit, Cond.classLink RX4 9 RX2, Cond.fieldLink RX4 14 "LendThreads$Work" "wanted" "LLendThreads$Rows;", Cond.fieldLink RX4 20 "LendThreads$Work" "receivers" "LLendThreads$Rows;", Cond.fieldLink RX4 23 "LendThreads$Work" "failsAt" "I", Cond.fieldLink RX4 27 "LendThreads$Work" "state" "I", Cond.fieldLink RX4 30 "LendThreads$Work" "latest" "I", Cond.fieldLink RX4 33 "LendThreads$Work" "number" "I", Cond.methodLink RX4 11 yX2_init]
def wsX5_init : List Cond := .code yX5_init cX5_init 2 none :: ((wsX5_init_r1 ++ (wsX5_init_r2 ++ wsX5_init_r3)) ++ wsX50 ++ wsX30 ++ wsX10 ++ wsX00 ++ wsX40 ++ wsX20)
def wsX5_work : List Cond := .code yX5_work cX5_work 4 (some .int) :: ([.fieldLink RX5 39 "LendThreads" "workCount" "I", .fieldLink RX5 11 "LendThreads" "works" "[LLendThreads$Work;"] ++ wsX50 ++ wsX40)
def wsX5_isWork : List Cond := .code yX5_isWork cX5_isWork 2 (some .boolean) :: ([.fieldLink RX5 39 "LendThreads" "workCount" "I"] ++ wsX50)
def wsX5_find : List Cond := .code yX5_find cX5_find 2 (some (.object "LendThreads$Work")) :: ([.fieldLink RX5 11 "LendThreads" "works" "[LLendThreads$Work;", .methodLink RX5 154 yX5_isWork, .instanceMethod yX5_isWork, .selects RX5 yX5_isWork yX5_isWork, .initialized RX5, .code yX5_isWork cX5_isWork 2 (some .boolean), .fieldLink RX5 39 "LendThreads" "workCount" "I"] ++ wsX50)
def wsX5_isOther : List Cond := .code yX5_isOther cX5_isOther 3 (some .boolean) :: ([.methodLink RX5 154 yX5_isWork, .instanceMethod yX5_isWork, .selects RX5 yX5_isWork yX5_isWork, .initialized RX5, .code yX5_isWork cX5_isWork 2 (some .boolean), .fieldLink RX5 39 "LendThreads" "workCount" "I"] ++ wsX50)
def wsX5_isCopy : List Cond := .code yX5_isCopy cX5_isCopy 1 (some .boolean) :: ([])
def wsX5_wants_r1 : List Cond := [Cond.methodLink RX5 52 yX5_find, Cond.instanceMethod yX5_find, Cond.selects RX5 yX5_find yX5_find, Cond.initialized RX5, Cond.code yX5_find cX5_find 2 (some (.object "LendThreads$Work")), Cond.fieldLink RX5 11 "LendThreads" "works" "[LLendThreads$Work;", Cond.methodLink RX5 154 yX5_isWork, Cond.instanceMethod yX5_isWork, Cond.selects RX5 yX5_isWork yX5_isWork, Cond.code yX5_isWork cX5_isWork 2 (some .boolean), Cond.fieldLink RX5 39 "LendThreads" "workCount" "I", Cond.methodLink RX5 56 yX4_isStep, Cond.instanceMethod yX4_isStep, Cond.selects RX4 yX4_isStep yX4_isStep, Cond.initialized RX4, Cond.code yX4_isStep cX4_isStep 2 (some .boolean), Cond.fieldLink RX4 36 "LendThreads$Work" "steps" "I", Cond.methodLink RX5 60 yX5_isOther, Cond.instanceMethod yX5_isOther, Cond.selects RX5 yX5_isOther yX5_isOther, Cond.code yX5_isOther cX5_isOther 3 (some .boolean), Cond.methodLink RX5 64 yX5_isCopy, Cond.static yX5_isCopy, Cond.code yX5_isCopy cX5_isCopy 1 (some .boolean)]
def wsX5_wants_r2 : List Cond := [Cond.methodLink RX5 75 yX2_add, Cond.instanceMethod yX2_add, Cond.selects RX2 yX2_add yX2_add, Cond.initialized RX2, Cond.code yX2_add cX2_add 3 (some .int), Cond.fieldLink RX2 15 "LendThreads$Rows" "counts" "[I", Cond.fieldLink RX2 9 "LendThreads$Rows" "room" "I", Cond.fieldLink RX2 19 "LendThreads$Rows" "items" "[I"]
def wsX5_wants : List Cond := .code yX5_wants cX5_wants 6 (some .int) :: ((wsX5_wants_r1 ++ wsX5_wants_r2) ++ wsX40 ++ wsX50 ++ wsX20)
def wsX5_sends_r1 : List Cond := [Cond.methodLink RX5 52 yX5_find, Cond.instanceMethod yX5_find, Cond.selects RX5 yX5_find yX5_find, Cond.initialized RX5, Cond.code yX5_find cX5_find 2 (some (.object "LendThreads$Work")), Cond.fieldLink RX5 11 "LendThreads" "works" "[LLendThreads$Work;", Cond.methodLink RX5 154 yX5_isWork, Cond.instanceMethod yX5_isWork, Cond.selects RX5 yX5_isWork yX5_isWork, Cond.code yX5_isWork cX5_isWork 2 (some .boolean), Cond.fieldLink RX5 39 "LendThreads" "workCount" "I", Cond.methodLink RX5 56 yX4_isStep, Cond.instanceMethod yX4_isStep, Cond.selects RX4 yX4_isStep yX4_isStep, Cond.initialized RX4, Cond.code yX4_isStep cX4_isStep 2 (some .boolean), Cond.fieldLink RX4 36 "LendThreads$Work" "steps" "I", Cond.methodLink RX5 60 yX5_isOther, Cond.instanceMethod yX5_isOther, Cond.selects RX5 yX5_isOther yX5_isOther, Cond.code yX5_isOther cX5_isOther 3 (some .boolean), Cond.methodLink RX5 75 yX2_add, Cond.instanceMethod yX2_add, Cond.selects RX2 yX2_add yX2_add]
def wsX5_sends_r2 : List Cond := [Cond.initialized RX2, Cond.code yX2_add cX2_add 3 (some .int), Cond.fieldLink RX2 15 "LendThreads$Rows" "counts" "[I", Cond.fieldLink RX2 9 "LendThreads$Rows" "room" "I", Cond.fieldLink RX2 19 "LendThreads$Rows" "items" "[I"]
def wsX5_sends : List Cond := .code yX5_sends cX5_sends 5 (some .int) :: ((wsX5_sends_r1 ++ wsX5_sends_r2) ++ wsX40 ++ wsX50 ++ wsX20)
def wsX5_loses : List Cond := .code yX5_loses cX5_loses 2 (some .int) :: ([.fieldLink RX5 25 "LendThreads" "post" "LLendThreads$Post;"] ++ wsX50 ++ wsX10)
def wsX5_undo_r1 : List Cond := [Cond.fieldLink RX5 18 "LendThreads" "shelf" "LLendThreads$Shelf;", Cond.methodLink RX5 208 yX3_restore, Cond.instanceMethod yX3_restore, Cond.selects RX3 yX3_restore yX3_restore, Cond.initialized RX3, Cond.code yX3_restore cX3_restore 3 none, Cond.fieldLink RX3 18 "LendThreads$Shelf" "holders" "[I", Cond.fieldLink RX3 9 "LendThreads$Shelf" "values" "[I", Cond.fieldLink RX3 15 "LendThreads$Shelf" "valuesWhenTaken" "[I", Cond.methodLink RX5 199 yX3_release, Cond.instanceMethod yX3_release, Cond.selects RX3 yX3_release yX3_release, Cond.code yX3_release cX3_release 3 none, Cond.fieldLink RX3 26 "LendThreads$Shelf" "lines" "LLendThreads$Rows;", Cond.methodLink RX3 40 yX2_remove, Cond.instanceMethod yX2_remove, Cond.selects RX2 yX2_remove yX2_remove, Cond.initialized RX2, Cond.code yX2_remove cX2_remove 5 none, Cond.fieldLink RX2 15 "LendThreads$Rows" "counts" "[I", Cond.fieldLink RX2 19 "LendThreads$Rows" "items" "[I", Cond.fieldLink RX2 9 "LendThreads$Rows" "room" "I", Cond.methodLink RX2 26 yX2_placeOf, Cond.instanceMethod yX2_placeOf]
def wsX5_undo_r2 : List Cond := [Cond.selects RX2 yX2_placeOf yX2_placeOf, Cond.code yX2_placeOf cX2_placeOf 5 (some .int), Cond.methodLink RX2 22 yX2_count, Cond.instanceMethod yX2_count, Cond.selects RX2 yX2_count yX2_count, Cond.code yX2_count cX2_count 2 (some .int)]
def wsX5_undo : List Cond := .code yX5_undo cX5_undo 3 none :: ((wsX5_undo_r1 ++ wsX5_undo_r2) ++ wsX50 ++ wsX40 ++ wsX30 ++ wsX20)
def wsX5_sendAll_r1 : List Cond := [Cond.fieldLink RX5 25 "LendThreads" "post" "LLendThreads$Post;", Cond.methodLink RX5 202 yX2_count, Cond.instanceMethod yX2_count, Cond.selects RX2 yX2_count yX2_count, Cond.initialized RX2, Cond.code yX2_count cX2_count 2 (some .int), Cond.fieldLink RX2 15 "LendThreads$Rows" "counts" "[I", Cond.methodLink RX5 134 yX2_item, Cond.instanceMethod yX2_item, Cond.selects RX2 yX2_item yX2_item, Cond.code yX2_item cX2_item 3 (some .int), Cond.fieldLink RX2 19 "LendThreads$Rows" "items" "[I", Cond.fieldLink RX2 9 "LendThreads$Rows" "room" "I", Cond.methodLink RX2 22 yX2_count, Cond.methodLink RX5 148 yX1_way, Cond.static yX1_way, Cond.initialized RX1, Cond.code yX1_way cX1_way 2 (some .int), Cond.methodLink RX5 205 yX1_send, Cond.instanceMethod yX1_send, Cond.selects RX1 yX1_send yX1_send, Cond.code yX1_send cX1_send 2 none, Cond.fieldLink RX1 22 "LendThreads$Post" "toLose" "I", Cond.fieldLink RX1 15 "LendThreads$Post" "lost" "[I"]
def wsX5_sendAll_r2 : List Cond := [Cond.fieldLink RX1 9 "LendThreads$Post" "there" "[I", Cond.methodLink RX1 18 yX1_isWay, Cond.instanceMethod yX1_isWay, Cond.selects RX1 yX1_isWay yX1_isWay, Cond.code yX1_isWay cX1_isWay 2 (some .boolean)]
def wsX5_sendAll : List Cond := .code yX5_sendAll cX5_sendAll 4 none :: ((wsX5_sendAll_r1 ++ wsX5_sendAll_r2) ++ wsX40 ++ wsX50 ++ wsX20 ++ wsX10)
def wsX5_actOrFail_r1 : List Cond := [Cond.fieldLink RX5 18 "LendThreads" "shelf" "LLendThreads$Shelf;", Cond.fieldLink RX5 32 "LendThreads" "diary" "LLendThreads$Diary;", Cond.methodLink RX5 99 yX5_undo, Cond.instanceMethod yX5_undo, Cond.selects RX5 yX5_undo yX5_undo, Cond.initialized RX5, Cond.code yX5_undo cX5_undo 3 none, Cond.methodLink RX5 208 yX3_restore, Cond.instanceMethod yX3_restore, Cond.selects RX3 yX3_restore yX3_restore, Cond.initialized RX3, Cond.code yX3_restore cX3_restore 3 none, Cond.fieldLink RX3 18 "LendThreads$Shelf" "holders" "[I", Cond.fieldLink RX3 9 "LendThreads$Shelf" "values" "[I", Cond.fieldLink RX3 15 "LendThreads$Shelf" "valuesWhenTaken" "[I", Cond.methodLink RX5 199 yX3_release, Cond.instanceMethod yX3_release, Cond.selects RX3 yX3_release yX3_release, Cond.code yX3_release cX3_release 3 none, Cond.fieldLink RX3 26 "LendThreads$Shelf" "lines" "LLendThreads$Rows;", Cond.methodLink RX3 40 yX2_remove, Cond.instanceMethod yX2_remove, Cond.selects RX2 yX2_remove yX2_remove, Cond.initialized RX2]
def wsX5_actOrFail_r2 : List Cond := [Cond.code yX2_remove cX2_remove 5 none, Cond.fieldLink RX2 15 "LendThreads$Rows" "counts" "[I", Cond.fieldLink RX2 19 "LendThreads$Rows" "items" "[I", Cond.fieldLink RX2 9 "LendThreads$Rows" "room" "I", Cond.methodLink RX2 26 yX2_placeOf, Cond.instanceMethod yX2_placeOf, Cond.selects RX2 yX2_placeOf yX2_placeOf, Cond.code yX2_placeOf cX2_placeOf 5 (some .int), Cond.methodLink RX2 22 yX2_count, Cond.instanceMethod yX2_count, Cond.selects RX2 yX2_count yX2_count, Cond.code yX2_count cX2_count 2 (some .int), Cond.methodLink RX5 189 yX3_change, Cond.instanceMethod yX3_change, Cond.selects RX3 yX3_change yX3_change, Cond.code yX3_change cX3_change 4 none, Cond.methodLink RX5 192 yX0_write, Cond.instanceMethod yX0_write, Cond.selects RX0 yX0_write yX0_write, Cond.initialized RX0, Cond.code yX0_write cX0_write 3 none, Cond.fieldLink RX0 14 "LendThreads$Diary" "lines" "LLendThreads$Rows;", Cond.methodLink RX0 20 yX2_add, Cond.instanceMethod yX2_add]
def wsX5_actOrFail_r3 : List Cond := [Cond.selects RX2 yX2_add yX2_add, Cond.code yX2_add cX2_add 3 (some .int), Cond.methodLink RX5 195 yX5_sendAll, Cond.instanceMethod yX5_sendAll, Cond.selects RX5 yX5_sendAll yX5_sendAll, Cond.code yX5_sendAll cX5_sendAll 4 none, Cond.fieldLink RX5 25 "LendThreads" "post" "LLendThreads$Post;", Cond.methodLink RX5 202 yX2_count, Cond.methodLink RX5 134 yX2_item, Cond.instanceMethod yX2_item, Cond.selects RX2 yX2_item yX2_item, Cond.code yX2_item cX2_item 3 (some .int), Cond.methodLink RX5 148 yX1_way, Cond.static yX1_way, Cond.initialized RX1, Cond.code yX1_way cX1_way 2 (some .int), Cond.methodLink RX5 205 yX1_send, Cond.instanceMethod yX1_send, Cond.selects RX1 yX1_send yX1_send, Cond.code yX1_send cX1_send 2 none, Cond.fieldLink RX1 22 "LendThreads$Post" "toLose" "I", Cond.fieldLink RX1 15 "LendThreads$Post" "lost" "[I", Cond.fieldLink RX1 9 "LendThreads$Post" "there" "[I", Cond.methodLink RX1 18 yX1_isWay]
def wsX5_actOrFail_r4 : List Cond := [Cond.instanceMethod yX1_isWay, Cond.selects RX1 yX1_isWay yX1_isWay, Cond.code yX1_isWay cX1_isWay 2 (some .boolean)]
def wsX5_actOrFail : List Cond := .code yX5_actOrFail cX5_actOrFail 2 (some .int) :: ((wsX5_actOrFail_r1 ++ (wsX5_actOrFail_r2 ++ (wsX5_actOrFail_r3 ++ wsX5_actOrFail_r4))) ++ wsX40 ++ wsX50 ++ wsX30 ++ wsX20 ++ wsX00 ++ wsX10)
def wsX5_goForCopy_r1 : List Cond := [Cond.fieldLink RX5 18 "LendThreads" "shelf" "LLendThreads$Shelf;", Cond.methodLink RX5 174 yX3_isFreeFor, Cond.instanceMethod yX3_isFreeFor, Cond.selects RX3 yX3_isFreeFor yX3_isFreeFor, Cond.initialized RX3, Cond.code yX3_isFreeFor cX3_isFreeFor 4 (some .boolean), Cond.fieldLink RX3 26 "LendThreads$Shelf" "lines" "LLendThreads$Rows;", Cond.fieldLink RX3 18 "LendThreads$Shelf" "holders" "[I", Cond.methodLink RX3 36 yX2_item, Cond.instanceMethod yX2_item, Cond.selects RX2 yX2_item yX2_item, Cond.initialized RX2, Cond.code yX2_item cX2_item 3 (some .int), Cond.fieldLink RX2 19 "LendThreads$Rows" "items" "[I", Cond.fieldLink RX2 9 "LendThreads$Rows" "room" "I", Cond.methodLink RX2 22 yX2_count, Cond.instanceMethod yX2_count, Cond.selects RX2 yX2_count yX2_count, Cond.code yX2_count cX2_count 2 (some .int), Cond.fieldLink RX2 15 "LendThreads$Rows" "counts" "[I", Cond.methodLink RX5 177 yX3_take, Cond.instanceMethod yX3_take, Cond.selects RX3 yX3_take yX3_take, Cond.code yX3_take cX3_take 3 none]
def wsX5_goForCopy_r2 : List Cond := [Cond.fieldLink RX3 15 "LendThreads$Shelf" "valuesWhenTaken" "[I", Cond.fieldLink RX3 9 "LendThreads$Shelf" "values" "[I", Cond.methodLink RX3 40 yX2_remove, Cond.instanceMethod yX2_remove, Cond.selects RX2 yX2_remove yX2_remove, Cond.code yX2_remove cX2_remove 5 none, Cond.methodLink RX2 26 yX2_placeOf, Cond.instanceMethod yX2_placeOf, Cond.selects RX2 yX2_placeOf yX2_placeOf, Cond.code yX2_placeOf cX2_placeOf 5 (some .int), Cond.methodLink RX5 181 yX3_standInLine, Cond.instanceMethod yX3_standInLine, Cond.selects RX3 yX3_standInLine yX3_standInLine, Cond.code yX3_standInLine cX3_standInLine 3 none, Cond.methodLink RX3 43 yX2_placeOf, Cond.methodLink RX3 46 yX2_add, Cond.instanceMethod yX2_add, Cond.selects RX2 yX2_add yX2_add, Cond.code yX2_add cX2_add 3 (some .int)]
def wsX5_goForCopy : List Cond := .code yX5_goForCopy cX5_goForCopy 3 (some .int) :: ((wsX5_goForCopy_r1 ++ wsX5_goForCopy_r2) ++ wsX50 ++ wsX30 ++ wsX40 ++ wsX20)
def wsX5_goForMessage : List Cond := .code yX5_goForMessage cX5_goForMessage 4 (some .int) :: ([.fieldLink RX5 25 "LendThreads" "post" "LLendThreads$Post;", .methodLink RX5 148 yX1_way, .static yX1_way, .initialized RX1, .code yX1_way cX1_way 2 (some .int), .methodLink RX5 184 yX1_take, .instanceMethod yX1_take, .selects RX1 yX1_take yX1_take, .code yX1_take cX1_take 2 (some .boolean), .fieldLink RX1 9 "LendThreads$Post" "there" "[I", .methodLink RX1 18 yX1_isWay, .instanceMethod yX1_isWay, .selects RX1 yX1_isWay yX1_isWay, .code yX1_isWay cX1_isWay 2 (some .boolean), .fieldLink RX1 15 "LendThreads$Post" "lost" "[I", .methodLink RX5 186 yX1_findLost, .instanceMethod yX1_findLost, .selects RX1 yX1_findLost yX1_findLost, .code yX1_findLost cX1_findLost 2 (some .boolean)] ++ wsX40 ++ wsX50 ++ wsX10)
def wsX5_goForNext_r1 : List Cond := [Cond.methodLink RX5 134 yX2_item, Cond.instanceMethod yX2_item, Cond.selects RX2 yX2_item yX2_item, Cond.initialized RX2, Cond.code yX2_item cX2_item 3 (some .int), Cond.fieldLink RX2 19 "LendThreads$Rows" "items" "[I", Cond.fieldLink RX2 9 "LendThreads$Rows" "room" "I", Cond.methodLink RX2 22 yX2_count, Cond.instanceMethod yX2_count, Cond.selects RX2 yX2_count yX2_count, Cond.code yX2_count cX2_count 2 (some .int), Cond.fieldLink RX2 15 "LendThreads$Rows" "counts" "[I", Cond.methodLink RX5 64 yX5_isCopy, Cond.static yX5_isCopy, Cond.initialized RX5, Cond.code yX5_isCopy cX5_isCopy 1 (some .boolean), Cond.methodLink RX5 167 yX5_goForCopy, Cond.instanceMethod yX5_goForCopy, Cond.selects RX5 yX5_goForCopy yX5_goForCopy, Cond.code yX5_goForCopy cX5_goForCopy 3 (some .int), Cond.fieldLink RX5 18 "LendThreads" "shelf" "LLendThreads$Shelf;", Cond.methodLink RX5 174 yX3_isFreeFor, Cond.instanceMethod yX3_isFreeFor, Cond.selects RX3 yX3_isFreeFor yX3_isFreeFor]
def wsX5_goForNext_r2 : List Cond := [Cond.initialized RX3, Cond.code yX3_isFreeFor cX3_isFreeFor 4 (some .boolean), Cond.fieldLink RX3 26 "LendThreads$Shelf" "lines" "LLendThreads$Rows;", Cond.fieldLink RX3 18 "LendThreads$Shelf" "holders" "[I", Cond.methodLink RX3 36 yX2_item, Cond.methodLink RX5 177 yX3_take, Cond.instanceMethod yX3_take, Cond.selects RX3 yX3_take yX3_take, Cond.code yX3_take cX3_take 3 none, Cond.fieldLink RX3 15 "LendThreads$Shelf" "valuesWhenTaken" "[I", Cond.fieldLink RX3 9 "LendThreads$Shelf" "values" "[I", Cond.methodLink RX3 40 yX2_remove, Cond.instanceMethod yX2_remove, Cond.selects RX2 yX2_remove yX2_remove, Cond.code yX2_remove cX2_remove 5 none, Cond.methodLink RX2 26 yX2_placeOf, Cond.instanceMethod yX2_placeOf, Cond.selects RX2 yX2_placeOf yX2_placeOf, Cond.code yX2_placeOf cX2_placeOf 5 (some .int), Cond.methodLink RX5 181 yX3_standInLine, Cond.instanceMethod yX3_standInLine, Cond.selects RX3 yX3_standInLine yX3_standInLine, Cond.code yX3_standInLine cX3_standInLine 3 none, Cond.methodLink RX3 43 yX2_placeOf]
def wsX5_goForNext_r3 : List Cond := [Cond.methodLink RX3 46 yX2_add, Cond.instanceMethod yX2_add, Cond.selects RX2 yX2_add yX2_add, Cond.code yX2_add cX2_add 3 (some .int), Cond.methodLink RX5 171 yX5_goForMessage, Cond.instanceMethod yX5_goForMessage, Cond.selects RX5 yX5_goForMessage yX5_goForMessage, Cond.code yX5_goForMessage cX5_goForMessage 4 (some .int), Cond.fieldLink RX5 25 "LendThreads" "post" "LLendThreads$Post;", Cond.methodLink RX5 148 yX1_way, Cond.static yX1_way, Cond.initialized RX1, Cond.code yX1_way cX1_way 2 (some .int), Cond.methodLink RX5 184 yX1_take, Cond.instanceMethod yX1_take, Cond.selects RX1 yX1_take yX1_take, Cond.code yX1_take cX1_take 2 (some .boolean), Cond.fieldLink RX1 9 "LendThreads$Post" "there" "[I", Cond.methodLink RX1 18 yX1_isWay, Cond.instanceMethod yX1_isWay, Cond.selects RX1 yX1_isWay yX1_isWay, Cond.code yX1_isWay cX1_isWay 2 (some .boolean), Cond.fieldLink RX1 15 "LendThreads$Post" "lost" "[I", Cond.methodLink RX5 186 yX1_findLost]
def wsX5_goForNext_r4 : List Cond := [Cond.instanceMethod yX1_findLost, Cond.selects RX1 yX1_findLost yX1_findLost, Cond.code yX1_findLost cX1_findLost 2 (some .boolean)]
def wsX5_goForNext : List Cond := .code yX5_goForNext cX5_goForNext 4 (some .int) :: ((wsX5_goForNext_r1 ++ (wsX5_goForNext_r2 ++ (wsX5_goForNext_r3 ++ wsX5_goForNext_r4))) ++ wsX40 ++ wsX20 ++ wsX50 ++ wsX30 ++ wsX10)
def wsX5_takeTurn_r1 : List Cond := [Cond.methodLink RX5 157 yX4_gotAll, Cond.instanceMethod yX4_gotAll, Cond.selects RX4 yX4_gotAll yX4_gotAll, Cond.initialized RX4, Cond.code yX4_gotAll cX4_gotAll 1 (some .boolean), Cond.fieldLink RX4 39 "LendThreads$Work" "got" "I", Cond.fieldLink RX4 14 "LendThreads$Work" "wanted" "LLendThreads$Rows;", Cond.fieldLink RX4 42 "LendThreads$Work" "step" "I", Cond.methodLink RX4 45 yX2_count, Cond.instanceMethod yX2_count, Cond.selects RX2 yX2_count yX2_count, Cond.initialized RX2, Cond.code yX2_count cX2_count 2 (some .int), Cond.fieldLink RX2 15 "LendThreads$Rows" "counts" "[I", Cond.methodLink RX5 161 yX5_actOrFail, Cond.instanceMethod yX5_actOrFail, Cond.selects RX5 yX5_actOrFail yX5_actOrFail, Cond.initialized RX5, Cond.code yX5_actOrFail cX5_actOrFail 2 (some .int), Cond.fieldLink RX5 18 "LendThreads" "shelf" "LLendThreads$Shelf;", Cond.fieldLink RX5 32 "LendThreads" "diary" "LLendThreads$Diary;", Cond.methodLink RX5 99 yX5_undo, Cond.instanceMethod yX5_undo, Cond.selects RX5 yX5_undo yX5_undo]
def wsX5_takeTurn_r2 : List Cond := [Cond.code yX5_undo cX5_undo 3 none, Cond.methodLink RX5 208 yX3_restore, Cond.instanceMethod yX3_restore, Cond.selects RX3 yX3_restore yX3_restore, Cond.initialized RX3, Cond.code yX3_restore cX3_restore 3 none, Cond.fieldLink RX3 18 "LendThreads$Shelf" "holders" "[I", Cond.fieldLink RX3 9 "LendThreads$Shelf" "values" "[I", Cond.fieldLink RX3 15 "LendThreads$Shelf" "valuesWhenTaken" "[I", Cond.methodLink RX5 199 yX3_release, Cond.instanceMethod yX3_release, Cond.selects RX3 yX3_release yX3_release, Cond.code yX3_release cX3_release 3 none, Cond.fieldLink RX3 26 "LendThreads$Shelf" "lines" "LLendThreads$Rows;", Cond.methodLink RX3 40 yX2_remove, Cond.instanceMethod yX2_remove, Cond.selects RX2 yX2_remove yX2_remove, Cond.code yX2_remove cX2_remove 5 none, Cond.fieldLink RX2 19 "LendThreads$Rows" "items" "[I", Cond.fieldLink RX2 9 "LendThreads$Rows" "room" "I", Cond.methodLink RX2 26 yX2_placeOf, Cond.instanceMethod yX2_placeOf, Cond.selects RX2 yX2_placeOf yX2_placeOf, Cond.code yX2_placeOf cX2_placeOf 5 (some .int)]
def wsX5_takeTurn_r3 : List Cond := [Cond.methodLink RX2 22 yX2_count, Cond.methodLink RX5 189 yX3_change, Cond.instanceMethod yX3_change, Cond.selects RX3 yX3_change yX3_change, Cond.code yX3_change cX3_change 4 none, Cond.methodLink RX5 192 yX0_write, Cond.instanceMethod yX0_write, Cond.selects RX0 yX0_write yX0_write, Cond.initialized RX0, Cond.code yX0_write cX0_write 3 none, Cond.fieldLink RX0 14 "LendThreads$Diary" "lines" "LLendThreads$Rows;", Cond.methodLink RX0 20 yX2_add, Cond.instanceMethod yX2_add, Cond.selects RX2 yX2_add yX2_add, Cond.code yX2_add cX2_add 3 (some .int), Cond.methodLink RX5 195 yX5_sendAll, Cond.instanceMethod yX5_sendAll, Cond.selects RX5 yX5_sendAll yX5_sendAll, Cond.code yX5_sendAll cX5_sendAll 4 none, Cond.fieldLink RX5 25 "LendThreads" "post" "LLendThreads$Post;", Cond.methodLink RX5 202 yX2_count, Cond.methodLink RX5 134 yX2_item, Cond.instanceMethod yX2_item, Cond.selects RX2 yX2_item yX2_item]
def wsX5_takeTurn_r4 : List Cond := [Cond.code yX2_item cX2_item 3 (some .int), Cond.methodLink RX5 148 yX1_way, Cond.static yX1_way, Cond.initialized RX1, Cond.code yX1_way cX1_way 2 (some .int), Cond.methodLink RX5 205 yX1_send, Cond.instanceMethod yX1_send, Cond.selects RX1 yX1_send yX1_send, Cond.code yX1_send cX1_send 2 none, Cond.fieldLink RX1 22 "LendThreads$Post" "toLose" "I", Cond.fieldLink RX1 15 "LendThreads$Post" "lost" "[I", Cond.fieldLink RX1 9 "LendThreads$Post" "there" "[I", Cond.methodLink RX1 18 yX1_isWay, Cond.instanceMethod yX1_isWay, Cond.selects RX1 yX1_isWay yX1_isWay, Cond.code yX1_isWay cX1_isWay 2 (some .boolean), Cond.methodLink RX5 164 yX5_goForNext, Cond.instanceMethod yX5_goForNext, Cond.selects RX5 yX5_goForNext yX5_goForNext, Cond.code yX5_goForNext cX5_goForNext 4 (some .int), Cond.methodLink RX5 64 yX5_isCopy, Cond.static yX5_isCopy, Cond.code yX5_isCopy cX5_isCopy 1 (some .boolean), Cond.methodLink RX5 167 yX5_goForCopy]
def wsX5_takeTurn_r5 : List Cond := [Cond.instanceMethod yX5_goForCopy, Cond.selects RX5 yX5_goForCopy yX5_goForCopy, Cond.code yX5_goForCopy cX5_goForCopy 3 (some .int), Cond.methodLink RX5 174 yX3_isFreeFor, Cond.instanceMethod yX3_isFreeFor, Cond.selects RX3 yX3_isFreeFor yX3_isFreeFor, Cond.code yX3_isFreeFor cX3_isFreeFor 4 (some .boolean), Cond.methodLink RX3 36 yX2_item, Cond.methodLink RX5 177 yX3_take, Cond.instanceMethod yX3_take, Cond.selects RX3 yX3_take yX3_take, Cond.code yX3_take cX3_take 3 none, Cond.methodLink RX5 181 yX3_standInLine, Cond.instanceMethod yX3_standInLine, Cond.selects RX3 yX3_standInLine yX3_standInLine, Cond.code yX3_standInLine cX3_standInLine 3 none, Cond.methodLink RX3 43 yX2_placeOf, Cond.methodLink RX3 46 yX2_add, Cond.methodLink RX5 171 yX5_goForMessage, Cond.instanceMethod yX5_goForMessage, Cond.selects RX5 yX5_goForMessage yX5_goForMessage, Cond.code yX5_goForMessage cX5_goForMessage 4 (some .int), Cond.methodLink RX5 184 yX1_take, Cond.instanceMethod yX1_take]
def wsX5_takeTurn_r6 : List Cond := [Cond.selects RX1 yX1_take yX1_take, Cond.code yX1_take cX1_take 2 (some .boolean), Cond.methodLink RX5 186 yX1_findLost, Cond.instanceMethod yX1_findLost, Cond.selects RX1 yX1_findLost yX1_findLost, Cond.code yX1_findLost cX1_findLost 2 (some .boolean)]
def wsX5_takeTurn : List Cond := .code yX5_takeTurn cX5_takeTurn 2 (some .int) :: ((wsX5_takeTurn_r1 ++ (wsX5_takeTurn_r2 ++ (wsX5_takeTurn_r3 ++ (wsX5_takeTurn_r4 ++ (wsX5_takeTurn_r5 ++ wsX5_takeTurn_r6))))) ++ wsX40 ++ wsX20 ++ wsX50 ++ wsX30 ++ wsX00 ++ wsX10)
def wsX5_turn_r1 : List Cond := [Cond.methodLink RX5 52 yX5_find, Cond.instanceMethod yX5_find, Cond.selects RX5 yX5_find yX5_find, Cond.initialized RX5, Cond.code yX5_find cX5_find 2 (some (.object "LendThreads$Work")), Cond.fieldLink RX5 11 "LendThreads" "works" "[LLendThreads$Work;", Cond.methodLink RX5 154 yX5_isWork, Cond.instanceMethod yX5_isWork, Cond.selects RX5 yX5_isWork yX5_isWork, Cond.code yX5_isWork cX5_isWork 2 (some .boolean), Cond.fieldLink RX5 39 "LendThreads" "workCount" "I", Cond.methodLink RX5 87 yX5_takeTurn, Cond.instanceMethod yX5_takeTurn, Cond.selects RX5 yX5_takeTurn yX5_takeTurn, Cond.code yX5_takeTurn cX5_takeTurn 2 (some .int), Cond.methodLink RX5 157 yX4_gotAll, Cond.instanceMethod yX4_gotAll, Cond.selects RX4 yX4_gotAll yX4_gotAll, Cond.initialized RX4, Cond.code yX4_gotAll cX4_gotAll 1 (some .boolean), Cond.fieldLink RX4 39 "LendThreads$Work" "got" "I", Cond.fieldLink RX4 14 "LendThreads$Work" "wanted" "LLendThreads$Rows;", Cond.fieldLink RX4 42 "LendThreads$Work" "step" "I", Cond.methodLink RX4 45 yX2_count]
def wsX5_turn_r2 : List Cond := [Cond.instanceMethod yX2_count, Cond.selects RX2 yX2_count yX2_count, Cond.initialized RX2, Cond.code yX2_count cX2_count 2 (some .int), Cond.fieldLink RX2 15 "LendThreads$Rows" "counts" "[I", Cond.methodLink RX5 161 yX5_actOrFail, Cond.instanceMethod yX5_actOrFail, Cond.selects RX5 yX5_actOrFail yX5_actOrFail, Cond.code yX5_actOrFail cX5_actOrFail 2 (some .int), Cond.fieldLink RX5 18 "LendThreads" "shelf" "LLendThreads$Shelf;", Cond.fieldLink RX5 32 "LendThreads" "diary" "LLendThreads$Diary;", Cond.methodLink RX5 99 yX5_undo, Cond.instanceMethod yX5_undo, Cond.selects RX5 yX5_undo yX5_undo, Cond.code yX5_undo cX5_undo 3 none, Cond.methodLink RX5 208 yX3_restore, Cond.instanceMethod yX3_restore, Cond.selects RX3 yX3_restore yX3_restore, Cond.initialized RX3, Cond.code yX3_restore cX3_restore 3 none, Cond.fieldLink RX3 18 "LendThreads$Shelf" "holders" "[I", Cond.fieldLink RX3 9 "LendThreads$Shelf" "values" "[I", Cond.fieldLink RX3 15 "LendThreads$Shelf" "valuesWhenTaken" "[I", Cond.methodLink RX5 199 yX3_release]
def wsX5_turn_r3 : List Cond := [Cond.instanceMethod yX3_release, Cond.selects RX3 yX3_release yX3_release, Cond.code yX3_release cX3_release 3 none, Cond.fieldLink RX3 26 "LendThreads$Shelf" "lines" "LLendThreads$Rows;", Cond.methodLink RX3 40 yX2_remove, Cond.instanceMethod yX2_remove, Cond.selects RX2 yX2_remove yX2_remove, Cond.code yX2_remove cX2_remove 5 none, Cond.fieldLink RX2 19 "LendThreads$Rows" "items" "[I", Cond.fieldLink RX2 9 "LendThreads$Rows" "room" "I", Cond.methodLink RX2 26 yX2_placeOf, Cond.instanceMethod yX2_placeOf, Cond.selects RX2 yX2_placeOf yX2_placeOf, Cond.code yX2_placeOf cX2_placeOf 5 (some .int), Cond.methodLink RX2 22 yX2_count, Cond.methodLink RX5 189 yX3_change, Cond.instanceMethod yX3_change, Cond.selects RX3 yX3_change yX3_change, Cond.code yX3_change cX3_change 4 none, Cond.methodLink RX5 192 yX0_write, Cond.instanceMethod yX0_write, Cond.selects RX0 yX0_write yX0_write, Cond.initialized RX0, Cond.code yX0_write cX0_write 3 none]
def wsX5_turn_r4 : List Cond := [Cond.fieldLink RX0 14 "LendThreads$Diary" "lines" "LLendThreads$Rows;", Cond.methodLink RX0 20 yX2_add, Cond.instanceMethod yX2_add, Cond.selects RX2 yX2_add yX2_add, Cond.code yX2_add cX2_add 3 (some .int), Cond.methodLink RX5 195 yX5_sendAll, Cond.instanceMethod yX5_sendAll, Cond.selects RX5 yX5_sendAll yX5_sendAll, Cond.code yX5_sendAll cX5_sendAll 4 none, Cond.fieldLink RX5 25 "LendThreads" "post" "LLendThreads$Post;", Cond.methodLink RX5 202 yX2_count, Cond.methodLink RX5 134 yX2_item, Cond.instanceMethod yX2_item, Cond.selects RX2 yX2_item yX2_item, Cond.code yX2_item cX2_item 3 (some .int), Cond.methodLink RX5 148 yX1_way, Cond.static yX1_way, Cond.initialized RX1, Cond.code yX1_way cX1_way 2 (some .int), Cond.methodLink RX5 205 yX1_send, Cond.instanceMethod yX1_send, Cond.selects RX1 yX1_send yX1_send, Cond.code yX1_send cX1_send 2 none, Cond.fieldLink RX1 22 "LendThreads$Post" "toLose" "I"]
def wsX5_turn_r5 : List Cond := [Cond.fieldLink RX1 15 "LendThreads$Post" "lost" "[I", Cond.fieldLink RX1 9 "LendThreads$Post" "there" "[I", Cond.methodLink RX1 18 yX1_isWay, Cond.instanceMethod yX1_isWay, Cond.selects RX1 yX1_isWay yX1_isWay, Cond.code yX1_isWay cX1_isWay 2 (some .boolean), Cond.methodLink RX5 164 yX5_goForNext, Cond.instanceMethod yX5_goForNext, Cond.selects RX5 yX5_goForNext yX5_goForNext, Cond.code yX5_goForNext cX5_goForNext 4 (some .int), Cond.methodLink RX5 64 yX5_isCopy, Cond.static yX5_isCopy, Cond.code yX5_isCopy cX5_isCopy 1 (some .boolean), Cond.methodLink RX5 167 yX5_goForCopy, Cond.instanceMethod yX5_goForCopy, Cond.selects RX5 yX5_goForCopy yX5_goForCopy, Cond.code yX5_goForCopy cX5_goForCopy 3 (some .int), Cond.methodLink RX5 174 yX3_isFreeFor, Cond.instanceMethod yX3_isFreeFor, Cond.selects RX3 yX3_isFreeFor yX3_isFreeFor, Cond.code yX3_isFreeFor cX3_isFreeFor 4 (some .boolean), Cond.methodLink RX3 36 yX2_item, Cond.methodLink RX5 177 yX3_take, Cond.instanceMethod yX3_take]
def wsX5_turn_r6 : List Cond := [Cond.selects RX3 yX3_take yX3_take, Cond.code yX3_take cX3_take 3 none, Cond.methodLink RX5 181 yX3_standInLine, Cond.instanceMethod yX3_standInLine, Cond.selects RX3 yX3_standInLine yX3_standInLine, Cond.code yX3_standInLine cX3_standInLine 3 none, Cond.methodLink RX3 43 yX2_placeOf, Cond.methodLink RX3 46 yX2_add, Cond.methodLink RX5 171 yX5_goForMessage, Cond.instanceMethod yX5_goForMessage, Cond.selects RX5 yX5_goForMessage yX5_goForMessage, Cond.code yX5_goForMessage cX5_goForMessage 4 (some .int), Cond.methodLink RX5 184 yX1_take, Cond.instanceMethod yX1_take, Cond.selects RX1 yX1_take yX1_take, Cond.code yX1_take cX1_take 2 (some .boolean), Cond.methodLink RX5 186 yX1_findLost, Cond.instanceMethod yX1_findLost, Cond.selects RX1 yX1_findLost yX1_findLost, Cond.code yX1_findLost cX1_findLost 2 (some .boolean)]
def wsX5_turn : List Cond := .code yX5_turn cX5_turn 3 (some .int) :: ((wsX5_turn_r1 ++ (wsX5_turn_r2 ++ (wsX5_turn_r3 ++ (wsX5_turn_r4 ++ (wsX5_turn_r5 ++ wsX5_turn_r6))))) ++ wsX50 ++ wsX40 ++ wsX20 ++ wsX30 ++ wsX00 ++ wsX10)
def wsX5_isWaiting : List Cond := .code yX5_isWaiting cX5_isWaiting 1 (some .boolean) :: ([])
def wsX5_run_r1 : List Cond := [Cond.constant RX5 91 (1000000), Cond.fieldLink RX5 39 "LendThreads" "workCount" "I", Cond.fieldLink RX5 11 "LendThreads" "works" "[LLendThreads$Work;", Cond.methodLink RX5 87 yX5_takeTurn, Cond.instanceMethod yX5_takeTurn, Cond.selects RX5 yX5_takeTurn yX5_takeTurn, Cond.initialized RX5, Cond.code yX5_takeTurn cX5_takeTurn 2 (some .int), Cond.methodLink RX5 157 yX4_gotAll, Cond.instanceMethod yX4_gotAll, Cond.selects RX4 yX4_gotAll yX4_gotAll, Cond.initialized RX4, Cond.code yX4_gotAll cX4_gotAll 1 (some .boolean), Cond.fieldLink RX4 39 "LendThreads$Work" "got" "I", Cond.fieldLink RX4 14 "LendThreads$Work" "wanted" "LLendThreads$Rows;", Cond.fieldLink RX4 42 "LendThreads$Work" "step" "I", Cond.methodLink RX4 45 yX2_count, Cond.instanceMethod yX2_count, Cond.selects RX2 yX2_count yX2_count, Cond.initialized RX2, Cond.code yX2_count cX2_count 2 (some .int), Cond.fieldLink RX2 15 "LendThreads$Rows" "counts" "[I", Cond.methodLink RX5 161 yX5_actOrFail, Cond.instanceMethod yX5_actOrFail]
def wsX5_run_r2 : List Cond := [Cond.selects RX5 yX5_actOrFail yX5_actOrFail, Cond.code yX5_actOrFail cX5_actOrFail 2 (some .int), Cond.fieldLink RX5 18 "LendThreads" "shelf" "LLendThreads$Shelf;", Cond.fieldLink RX5 32 "LendThreads" "diary" "LLendThreads$Diary;", Cond.methodLink RX5 99 yX5_undo, Cond.instanceMethod yX5_undo, Cond.selects RX5 yX5_undo yX5_undo, Cond.code yX5_undo cX5_undo 3 none, Cond.methodLink RX5 208 yX3_restore, Cond.instanceMethod yX3_restore, Cond.selects RX3 yX3_restore yX3_restore, Cond.initialized RX3, Cond.code yX3_restore cX3_restore 3 none, Cond.fieldLink RX3 18 "LendThreads$Shelf" "holders" "[I", Cond.fieldLink RX3 9 "LendThreads$Shelf" "values" "[I", Cond.fieldLink RX3 15 "LendThreads$Shelf" "valuesWhenTaken" "[I", Cond.methodLink RX5 199 yX3_release, Cond.instanceMethod yX3_release, Cond.selects RX3 yX3_release yX3_release, Cond.code yX3_release cX3_release 3 none, Cond.fieldLink RX3 26 "LendThreads$Shelf" "lines" "LLendThreads$Rows;", Cond.methodLink RX3 40 yX2_remove, Cond.instanceMethod yX2_remove, Cond.selects RX2 yX2_remove yX2_remove]
def wsX5_run_r3 : List Cond := [Cond.code yX2_remove cX2_remove 5 none, Cond.fieldLink RX2 19 "LendThreads$Rows" "items" "[I", Cond.fieldLink RX2 9 "LendThreads$Rows" "room" "I", Cond.methodLink RX2 26 yX2_placeOf, Cond.instanceMethod yX2_placeOf, Cond.selects RX2 yX2_placeOf yX2_placeOf, Cond.code yX2_placeOf cX2_placeOf 5 (some .int), Cond.methodLink RX2 22 yX2_count, Cond.methodLink RX5 189 yX3_change, Cond.instanceMethod yX3_change, Cond.selects RX3 yX3_change yX3_change, Cond.code yX3_change cX3_change 4 none, Cond.methodLink RX5 192 yX0_write, Cond.instanceMethod yX0_write, Cond.selects RX0 yX0_write yX0_write, Cond.initialized RX0, Cond.code yX0_write cX0_write 3 none, Cond.fieldLink RX0 14 "LendThreads$Diary" "lines" "LLendThreads$Rows;", Cond.methodLink RX0 20 yX2_add, Cond.instanceMethod yX2_add, Cond.selects RX2 yX2_add yX2_add, Cond.code yX2_add cX2_add 3 (some .int), Cond.methodLink RX5 195 yX5_sendAll, Cond.instanceMethod yX5_sendAll]
def wsX5_run_r4 : List Cond := [Cond.selects RX5 yX5_sendAll yX5_sendAll, Cond.code yX5_sendAll cX5_sendAll 4 none, Cond.fieldLink RX5 25 "LendThreads" "post" "LLendThreads$Post;", Cond.methodLink RX5 202 yX2_count, Cond.methodLink RX5 134 yX2_item, Cond.instanceMethod yX2_item, Cond.selects RX2 yX2_item yX2_item, Cond.code yX2_item cX2_item 3 (some .int), Cond.methodLink RX5 148 yX1_way, Cond.static yX1_way, Cond.initialized RX1, Cond.code yX1_way cX1_way 2 (some .int), Cond.methodLink RX5 205 yX1_send, Cond.instanceMethod yX1_send, Cond.selects RX1 yX1_send yX1_send, Cond.code yX1_send cX1_send 2 none, Cond.fieldLink RX1 22 "LendThreads$Post" "toLose" "I", Cond.fieldLink RX1 15 "LendThreads$Post" "lost" "[I", Cond.fieldLink RX1 9 "LendThreads$Post" "there" "[I", Cond.methodLink RX1 18 yX1_isWay, Cond.instanceMethod yX1_isWay, Cond.selects RX1 yX1_isWay yX1_isWay, Cond.code yX1_isWay cX1_isWay 2 (some .boolean), Cond.methodLink RX5 164 yX5_goForNext]
def wsX5_run_r5 : List Cond := [Cond.instanceMethod yX5_goForNext, Cond.selects RX5 yX5_goForNext yX5_goForNext, Cond.code yX5_goForNext cX5_goForNext 4 (some .int), Cond.methodLink RX5 64 yX5_isCopy, Cond.static yX5_isCopy, Cond.code yX5_isCopy cX5_isCopy 1 (some .boolean), Cond.methodLink RX5 167 yX5_goForCopy, Cond.instanceMethod yX5_goForCopy, Cond.selects RX5 yX5_goForCopy yX5_goForCopy, Cond.code yX5_goForCopy cX5_goForCopy 3 (some .int), Cond.methodLink RX5 174 yX3_isFreeFor, Cond.instanceMethod yX3_isFreeFor, Cond.selects RX3 yX3_isFreeFor yX3_isFreeFor, Cond.code yX3_isFreeFor cX3_isFreeFor 4 (some .boolean), Cond.methodLink RX3 36 yX2_item, Cond.methodLink RX5 177 yX3_take, Cond.instanceMethod yX3_take, Cond.selects RX3 yX3_take yX3_take, Cond.code yX3_take cX3_take 3 none, Cond.methodLink RX5 181 yX3_standInLine, Cond.instanceMethod yX3_standInLine, Cond.selects RX3 yX3_standInLine yX3_standInLine, Cond.code yX3_standInLine cX3_standInLine 3 none, Cond.methodLink RX3 43 yX2_placeOf]
def wsX5_run_r6 : List Cond := [Cond.methodLink RX3 46 yX2_add, Cond.methodLink RX5 171 yX5_goForMessage, Cond.instanceMethod yX5_goForMessage, Cond.selects RX5 yX5_goForMessage yX5_goForMessage, Cond.code yX5_goForMessage cX5_goForMessage 4 (some .int), Cond.methodLink RX5 184 yX1_take, Cond.instanceMethod yX1_take, Cond.selects RX1 yX1_take yX1_take, Cond.code yX1_take cX1_take 2 (some .boolean), Cond.methodLink RX5 186 yX1_findLost, Cond.instanceMethod yX1_findLost, Cond.selects RX1 yX1_findLost yX1_findLost, Cond.code yX1_findLost cX1_findLost 2 (some .boolean), Cond.methodLink RX5 92 yX5_isWaiting, Cond.static yX5_isWaiting, Cond.code yX5_isWaiting cX5_isWaiting 1 (some .boolean)]
def wsX5_run : List Cond := .code yX5_run cX5_run 6 (some .int) :: ((wsX5_run_r1 ++ (wsX5_run_r2 ++ (wsX5_run_r3 ++ (wsX5_run_r4 ++ (wsX5_run_r5 ++ wsX5_run_r6))))) ++ wsX50 ++ wsX40 ++ wsX20 ++ wsX30 ++ wsX00 ++ wsX10)
def wsX5_greatestInRingOf : List Cond := .code yX5_greatestInRingOf cX5_greatestInRingOf 5 (some .int) :: ([.fieldLink RX5 18 "LendThreads" "shelf" "LLendThreads$Shelf;", .methodLink RX5 214 Lib.Math.max.name, .static Lib.Math.max.name, .initialized "java/lang/Math", .code Lib.Math.max.name Lib.Math.max.code 2 (some .int), .methodLink RX5 211 yX3_holderAwaitedBy, .instanceMethod yX3_holderAwaitedBy, .selects RX3 yX3_holderAwaitedBy yX3_holderAwaitedBy, .initialized RX3, .code yX3_holderAwaitedBy cX3_holderAwaitedBy 3 (some .int), .fieldLink RX3 26 "LendThreads$Shelf" "lines" "LLendThreads$Rows;", .fieldLink RX3 18 "LendThreads$Shelf" "holders" "[I", .methodLink RX3 43 yX2_placeOf, .instanceMethod yX2_placeOf, .selects RX2 yX2_placeOf yX2_placeOf, .initialized RX2, .code yX2_placeOf cX2_placeOf 5 (some .int), .fieldLink RX2 19 "LendThreads$Rows" "items" "[I", .fieldLink RX2 9 "LendThreads$Rows" "room" "I", .methodLink RX2 22 yX2_count, .instanceMethod yX2_count, .selects RX2 yX2_count yX2_count, .code yX2_count cX2_count 2 (some .int), .fieldLink RX2 15 "LendThreads$Rows" "counts" "[I"] ++ wsX50 ++ wsX30 ++ wsX20)
def wsX5_ring_r1 : List Cond := [Cond.fieldLink RX5 39 "LendThreads" "workCount" "I", Cond.fieldLink RX5 11 "LendThreads" "works" "[LLendThreads$Work;", Cond.methodLink RX5 95 yX5_greatestInRingOf, Cond.instanceMethod yX5_greatestInRingOf, Cond.selects RX5 yX5_greatestInRingOf yX5_greatestInRingOf, Cond.initialized RX5, Cond.code yX5_greatestInRingOf cX5_greatestInRingOf 5 (some .int), Cond.fieldLink RX5 18 "LendThreads" "shelf" "LLendThreads$Shelf;", Cond.methodLink RX5 214 Lib.Math.max.name, Cond.static Lib.Math.max.name, Cond.initialized "java/lang/Math", Cond.code Lib.Math.max.name Lib.Math.max.code 2 (some .int), Cond.methodLink RX5 211 yX3_holderAwaitedBy, Cond.instanceMethod yX3_holderAwaitedBy, Cond.selects RX3 yX3_holderAwaitedBy yX3_holderAwaitedBy, Cond.initialized RX3, Cond.code yX3_holderAwaitedBy cX3_holderAwaitedBy 3 (some .int), Cond.fieldLink RX3 26 "LendThreads$Shelf" "lines" "LLendThreads$Rows;", Cond.fieldLink RX3 18 "LendThreads$Shelf" "holders" "[I", Cond.methodLink RX3 43 yX2_placeOf, Cond.instanceMethod yX2_placeOf, Cond.selects RX2 yX2_placeOf yX2_placeOf, Cond.initialized RX2, Cond.code yX2_placeOf cX2_placeOf 5 (some .int)]
def wsX5_ring_r2 : List Cond := [Cond.fieldLink RX2 19 "LendThreads$Rows" "items" "[I", Cond.fieldLink RX2 9 "LendThreads$Rows" "room" "I", Cond.methodLink RX2 22 yX2_count, Cond.instanceMethod yX2_count, Cond.selects RX2 yX2_count yX2_count, Cond.code yX2_count cX2_count 2 (some .int), Cond.fieldLink RX2 15 "LendThreads$Rows" "counts" "[I", Cond.methodLink RX5 99 yX5_undo, Cond.instanceMethod yX5_undo, Cond.selects RX5 yX5_undo yX5_undo, Cond.code yX5_undo cX5_undo 3 none, Cond.methodLink RX5 208 yX3_restore, Cond.instanceMethod yX3_restore, Cond.selects RX3 yX3_restore yX3_restore, Cond.code yX3_restore cX3_restore 3 none, Cond.fieldLink RX3 9 "LendThreads$Shelf" "values" "[I", Cond.fieldLink RX3 15 "LendThreads$Shelf" "valuesWhenTaken" "[I", Cond.methodLink RX5 199 yX3_release, Cond.instanceMethod yX3_release, Cond.selects RX3 yX3_release yX3_release, Cond.code yX3_release cX3_release 3 none, Cond.methodLink RX3 40 yX2_remove, Cond.instanceMethod yX2_remove, Cond.selects RX2 yX2_remove yX2_remove]
def wsX5_ring_r3 : List Cond := [Cond.code yX2_remove cX2_remove 5 none, Cond.methodLink RX2 26 yX2_placeOf]
def wsX5_ring : List Cond := .code yX5_ring cX5_ring 3 (some .int) :: ((wsX5_ring_r1 ++ (wsX5_ring_r2 ++ wsX5_ring_r3)) ++ wsX50 ++ wsX30 ++ wsX20 ++ wsX40)
def wsX5_interrupt_r1 : List Cond := [Cond.methodLink RX5 52 yX5_find, Cond.instanceMethod yX5_find, Cond.selects RX5 yX5_find yX5_find, Cond.initialized RX5, Cond.code yX5_find cX5_find 2 (some (.object "LendThreads$Work")), Cond.fieldLink RX5 11 "LendThreads" "works" "[LLendThreads$Work;", Cond.methodLink RX5 154 yX5_isWork, Cond.instanceMethod yX5_isWork, Cond.selects RX5 yX5_isWork yX5_isWork, Cond.code yX5_isWork cX5_isWork 2 (some .boolean), Cond.fieldLink RX5 39 "LendThreads" "workCount" "I", Cond.methodLink RX5 92 yX5_isWaiting, Cond.static yX5_isWaiting, Cond.code yX5_isWaiting cX5_isWaiting 1 (some .boolean), Cond.methodLink RX5 99 yX5_undo, Cond.instanceMethod yX5_undo, Cond.selects RX5 yX5_undo yX5_undo, Cond.code yX5_undo cX5_undo 3 none, Cond.fieldLink RX5 18 "LendThreads" "shelf" "LLendThreads$Shelf;", Cond.methodLink RX5 208 yX3_restore, Cond.instanceMethod yX3_restore, Cond.selects RX3 yX3_restore yX3_restore, Cond.initialized RX3, Cond.code yX3_restore cX3_restore 3 none]
def wsX5_interrupt_r2 : List Cond := [Cond.fieldLink RX3 18 "LendThreads$Shelf" "holders" "[I", Cond.fieldLink RX3 9 "LendThreads$Shelf" "values" "[I", Cond.fieldLink RX3 15 "LendThreads$Shelf" "valuesWhenTaken" "[I", Cond.methodLink RX5 199 yX3_release, Cond.instanceMethod yX3_release, Cond.selects RX3 yX3_release yX3_release, Cond.code yX3_release cX3_release 3 none, Cond.fieldLink RX3 26 "LendThreads$Shelf" "lines" "LLendThreads$Rows;", Cond.methodLink RX3 40 yX2_remove, Cond.instanceMethod yX2_remove, Cond.selects RX2 yX2_remove yX2_remove, Cond.initialized RX2, Cond.code yX2_remove cX2_remove 5 none, Cond.fieldLink RX2 15 "LendThreads$Rows" "counts" "[I", Cond.fieldLink RX2 19 "LendThreads$Rows" "items" "[I", Cond.fieldLink RX2 9 "LendThreads$Rows" "room" "I", Cond.methodLink RX2 26 yX2_placeOf, Cond.instanceMethod yX2_placeOf, Cond.selects RX2 yX2_placeOf yX2_placeOf, Cond.code yX2_placeOf cX2_placeOf 5 (some .int), Cond.methodLink RX2 22 yX2_count, Cond.instanceMethod yX2_count, Cond.selects RX2 yX2_count yX2_count, Cond.code yX2_count cX2_count 2 (some .int)]
def wsX5_interrupt : List Cond := .code yX5_interrupt cX5_interrupt 3 (some .int) :: ((wsX5_interrupt_r1 ++ wsX5_interrupt_r2) ++ wsX40 ++ wsX50 ++ wsX30 ++ wsX20)
def wsX5_again : List Cond := .code yX5_again cX5_again 3 (some .int) :: ([.methodLink RX5 52 yX5_find, .instanceMethod yX5_find, .selects RX5 yX5_find yX5_find, .initialized RX5, .code yX5_find cX5_find 2 (some (.object "LendThreads$Work")), .fieldLink RX5 11 "LendThreads" "works" "[LLendThreads$Work;", .methodLink RX5 154 yX5_isWork, .instanceMethod yX5_isWork, .selects RX5 yX5_isWork yX5_isWork, .code yX5_isWork cX5_isWork 2 (some .boolean), .fieldLink RX5 39 "LendThreads" "workCount" "I", .methodLink RX5 109 yX4_beginAgain, .instanceMethod yX4_beginAgain, .selects RX4 yX4_beginAgain yX4_beginAgain, .initialized RX4, .code yX4_beginAgain cX4_beginAgain 1 none, .fieldLink RX4 27 "LendThreads$Work" "state" "I", .fieldLink RX4 42 "LendThreads$Work" "step" "I", .fieldLink RX4 39 "LendThreads$Work" "got" "I", .fieldLink RX4 23 "LendThreads$Work" "failsAt" "I", .fieldLink RX4 30 "LendThreads$Work" "latest" "I", .fieldLink RX4 49 "LendThreads$Work" "begunAgain" "I"] ++ wsX40 ++ wsX50)
def wsX5_close_r1 : List Cond := [Cond.fieldLink RX5 39 "LendThreads" "workCount" "I", Cond.fieldLink RX5 11 "LendThreads" "works" "[LLendThreads$Work;", Cond.methodLink RX5 99 yX5_undo, Cond.instanceMethod yX5_undo, Cond.selects RX5 yX5_undo yX5_undo, Cond.initialized RX5, Cond.code yX5_undo cX5_undo 3 none, Cond.fieldLink RX5 18 "LendThreads" "shelf" "LLendThreads$Shelf;", Cond.methodLink RX5 208 yX3_restore, Cond.instanceMethod yX3_restore, Cond.selects RX3 yX3_restore yX3_restore, Cond.initialized RX3, Cond.code yX3_restore cX3_restore 3 none, Cond.fieldLink RX3 18 "LendThreads$Shelf" "holders" "[I", Cond.fieldLink RX3 9 "LendThreads$Shelf" "values" "[I", Cond.fieldLink RX3 15 "LendThreads$Shelf" "valuesWhenTaken" "[I", Cond.methodLink RX5 199 yX3_release, Cond.instanceMethod yX3_release, Cond.selects RX3 yX3_release yX3_release, Cond.code yX3_release cX3_release 3 none, Cond.fieldLink RX3 26 "LendThreads$Shelf" "lines" "LLendThreads$Rows;", Cond.methodLink RX3 40 yX2_remove, Cond.instanceMethod yX2_remove, Cond.selects RX2 yX2_remove yX2_remove]
def wsX5_close_r2 : List Cond := [Cond.initialized RX2, Cond.code yX2_remove cX2_remove 5 none, Cond.fieldLink RX2 15 "LendThreads$Rows" "counts" "[I", Cond.fieldLink RX2 19 "LendThreads$Rows" "items" "[I", Cond.fieldLink RX2 9 "LendThreads$Rows" "room" "I", Cond.methodLink RX2 26 yX2_placeOf, Cond.instanceMethod yX2_placeOf, Cond.selects RX2 yX2_placeOf yX2_placeOf, Cond.code yX2_placeOf cX2_placeOf 5 (some .int), Cond.methodLink RX2 22 yX2_count, Cond.instanceMethod yX2_count, Cond.selects RX2 yX2_count yX2_count, Cond.code yX2_count cX2_count 2 (some .int)]
def wsX5_close : List Cond := .code yX5_close cX5_close 3 (some .int) :: ((wsX5_close_r1 ++ wsX5_close_r2) ++ wsX50 ++ wsX40 ++ wsX30 ++ wsX20)
def wsX5_state : List Cond := .code yX5_state cX5_state 4 (some .int) :: ([.fieldLink RX5 18 "LendThreads" "shelf" "LLendThreads$Shelf;", .methodLink RX5 52 yX5_find, .instanceMethod yX5_find, .selects RX5 yX5_find yX5_find, .initialized RX5, .code yX5_find cX5_find 2 (some (.object "LendThreads$Work")), .fieldLink RX5 11 "LendThreads" "works" "[LLendThreads$Work;", .methodLink RX5 154 yX5_isWork, .instanceMethod yX5_isWork, .selects RX5 yX5_isWork yX5_isWork, .code yX5_isWork cX5_isWork 2 (some .boolean), .fieldLink RX5 39 "LendThreads" "workCount" "I", .methodLink RX5 121 yX3_countOf, .instanceMethod yX3_countOf, .selects RX3 yX3_countOf yX3_countOf, .initialized RX3, .code yX3_countOf cX3_countOf 4 (some .int), .fieldLink RX3 18 "LendThreads$Shelf" "holders" "[I"] ++ wsX40 ++ wsX50 ++ wsX30)
def wsX5_has : List Cond := .code yX5_has cX5_has 2 (some .int) :: ([.fieldLink RX5 18 "LendThreads" "shelf" "LLendThreads$Shelf;", .methodLink RX5 64 yX5_isCopy, .static yX5_isCopy, .initialized RX5, .code yX5_isCopy cX5_isCopy 1 (some .boolean)] ++ wsX50 ++ wsX30)
def wsX5_line : List Cond := .code yX5_line cX5_line 3 (some .int) :: ([.fieldLink RX5 18 "LendThreads" "shelf" "LLendThreads$Shelf;", .methodLink RX5 134 yX2_item, .instanceMethod yX2_item, .selects RX2 yX2_item yX2_item, .initialized RX2, .code yX2_item cX2_item 3 (some .int), .fieldLink RX2 19 "LendThreads$Rows" "items" "[I", .fieldLink RX2 9 "LendThreads$Rows" "room" "I", .methodLink RX2 22 yX2_count, .instanceMethod yX2_count, .selects RX2 yX2_count yX2_count, .code yX2_count cX2_count 2 (some .int), .fieldLink RX2 15 "LendThreads$Rows" "counts" "[I"] ++ wsX50 ++ wsX30 ++ wsX20)
def wsX5_value : List Cond := .code yX5_value cX5_value 2 (some .int) :: ([.classLink RX5 137 "java/lang/IndexOutOfBoundsException", .initialized "java/lang/IndexOutOfBoundsException", .fieldLink RX5 18 "LendThreads" "shelf" "LLendThreads$Shelf;", .methodLink RX5 64 yX5_isCopy, .static yX5_isCopy, .initialized RX5, .code yX5_isCopy cX5_isCopy 1 (some .boolean)] ++ wsX50 ++ wsX30 ++ (vx_atS RX5 141 "java/lang/IndexOutOfBoundsException" ["java/lang/RuntimeException", "java/lang/Exception"]).filter goodWord)
def wsX5_log : List Cond := .code yX5_log cX5_log 2 (some .int) :: ([.fieldLink RX5 32 "LendThreads" "diary" "LLendThreads$Diary;", .methodLink RX5 134 yX2_item, .instanceMethod yX2_item, .selects RX2 yX2_item yX2_item, .initialized RX2, .code yX2_item cX2_item 3 (some .int), .fieldLink RX2 19 "LendThreads$Rows" "items" "[I", .fieldLink RX2 9 "LendThreads$Rows" "room" "I", .methodLink RX2 22 yX2_count, .instanceMethod yX2_count, .selects RX2 yX2_count yX2_count, .code yX2_count cX2_count 2 (some .int), .fieldLink RX2 15 "LendThreads$Rows" "counts" "[I"] ++ wsX50 ++ wsX00 ++ wsX20)
def wsX5_mail_r1 : List Cond := [Cond.fieldLink RX5 25 "LendThreads" "post" "LLendThreads$Post;", Cond.methodLink RX5 52 yX5_find, Cond.instanceMethod yX5_find, Cond.selects RX5 yX5_find yX5_find, Cond.initialized RX5, Cond.code yX5_find cX5_find 2 (some (.object "LendThreads$Work")), Cond.fieldLink RX5 11 "LendThreads" "works" "[LLendThreads$Work;", Cond.methodLink RX5 154 yX5_isWork, Cond.instanceMethod yX5_isWork, Cond.selects RX5 yX5_isWork yX5_isWork, Cond.code yX5_isWork cX5_isWork 2 (some .boolean), Cond.fieldLink RX5 39 "LendThreads" "workCount" "I", Cond.methodLink RX5 60 yX5_isOther, Cond.instanceMethod yX5_isOther, Cond.selects RX5 yX5_isOther yX5_isOther, Cond.code yX5_isOther cX5_isOther 3 (some .boolean), Cond.methodLink RX5 148 yX1_way, Cond.static yX1_way, Cond.initialized RX1, Cond.code yX1_way cX1_way 2 (some .int), Cond.methodLink RX5 151 yX1_countThere, Cond.instanceMethod yX1_countThere, Cond.selects RX1 yX1_countThere yX1_countThere, Cond.code yX1_countThere cX1_countThere 2 (some .int)]
def wsX5_mail_r2 : List Cond := [Cond.fieldLink RX1 9 "LendThreads$Post" "there" "[I", Cond.methodLink RX1 18 yX1_isWay, Cond.instanceMethod yX1_isWay, Cond.selects RX1 yX1_isWay yX1_isWay, Cond.code yX1_isWay cX1_isWay 2 (some .boolean), Cond.fieldLink RX1 15 "LendThreads$Post" "lost" "[I"]
def wsX5_mail : List Cond := .code yX5_mail cX5_mail 3 (some .int) :: ((wsX5_mail_r1 ++ wsX5_mail_r2) ++ wsX50 ++ wsX10)
def wsX6_init_r1 : List Cond := [Cond.methodLink RX6 1 objectInit, Cond.instanceMethod objectInit, Cond.code objectInit ⟨#[0xb1]⟩ 1 none, Cond.arrayClass .int, Cond.fieldLink RX6 7 "LendThreadsModel" "steps" "[I", Cond.fieldLink RX6 13 "LendThreadsModel" "failsAt" "[I", Cond.fieldLink RX6 16 "LendThreadsModel" "state" "[I", Cond.fieldLink RX6 19 "LendThreadsModel" "step" "[I", Cond.fieldLink RX6 22 "LendThreadsModel" "got" "[I", Cond.fieldLink RX6 25 "LendThreadsModel" "latest" "[I", Cond.arrayClass .boolean, Cond.fieldLink RX6 28 "LendThreadsModel" "begun" "[Z", Cond.fieldLink RX6 32 "LendThreadsModel" "asked" "[I", Cond.fieldLink RX6 35 "LendThreadsModel" "again" "[I", Cond.fieldLink RX6 38 "LendThreadsModel" "waitsFor" "[I", Cond.fieldLink RX6 41 "LendThreadsModel" "since" "[I", Cond.fieldLink RX6 44 "LendThreadsModel" "wantCount" "[I", Cond.fieldLink RX6 47 "LendThreadsModel" "want" "[I", Cond.fieldLink RX6 50 "LendThreadsModel" "sendCount" "[I", Cond.fieldLink RX6 53 "LendThreadsModel" "send" "[I", Cond.fieldLink RX6 56 "LendThreadsModel" "owner" "[I", Cond.fieldLink RX6 59 "LendThreadsModel" "value" "[I", Cond.fieldLink RX6 62 "LendThreadsModel" "there" "[I", Cond.fieldLink RX6 65 "LendThreadsModel" "lost" "[I"]
def wsX6_init_r2 : List Cond := [Cond.fieldLink RX6 68 "LendThreadsModel" "changedBy" "[I", Cond.fieldLink RX6 71 "LendThreadsModel" "changed" "[I", Cond.fieldLink RX6 74 "LendThreadsModel" "before" "[I", Cond.fieldLink RX6 77 "LendThreadsModel" "log" "[I"]
def wsX6_init : List Cond := .code yX6_init cX6_init 1 none :: ((wsX6_init_r1 ++ wsX6_init_r2) ++ wsX60)
def wsX6_in : List Cond := .code yX6_in cX6_in 3 (some .boolean) :: ([])
def wsX6_isWork : List Cond := .code yX6_isWork cX6_isWork 2 (some .boolean) :: ([.fieldLink RX6 84 "LendThreadsModel" "works" "I", .methodLink RX6 87 yX6_in, .static yX6_in, .initialized RX6, .code yX6_in cX6_in 3 (some .boolean)] ++ wsX60)
def wsX6_work : List Cond := .code yX6_work cX6_work 3 (some .int) :: ([.fieldLink RX6 80 "LendThreadsModel" "thrown" "I", .fieldLink RX6 84 "LendThreadsModel" "works" "I", .fieldLink RX6 7 "LendThreadsModel" "steps" "[I", .fieldLink RX6 13 "LendThreadsModel" "failsAt" "[I", .methodLink RX6 87 yX6_in, .static yX6_in, .initialized RX6, .code yX6_in cX6_in 3 (some .boolean)] ++ wsX60)
def wsX6_isStep : List Cond := .code yX6_isStep cX6_isStep 3 (some .boolean) :: ([.fieldLink RX6 7 "LendThreadsModel" "steps" "[I", .methodLink RX6 91 yX6_isWork, .instanceMethod yX6_isWork, .selects RX6 yX6_isWork yX6_isWork, .initialized RX6, .code yX6_isWork cX6_isWork 2 (some .boolean), .fieldLink RX6 84 "LendThreadsModel" "works" "I", .methodLink RX6 87 yX6_in, .static yX6_in, .code yX6_in cX6_in 3 (some .boolean)] ++ wsX60)
def wsX6_wants : List Cond := .code yX6_wants cX6_wants 6 (some .int) :: ([.fieldLink RX6 80 "LendThreadsModel" "thrown" "I", .fieldLink RX6 28 "LendThreadsModel" "begun" "[Z", .fieldLink RX6 44 "LendThreadsModel" "wantCount" "[I", .fieldLink RX6 47 "LendThreadsModel" "want" "[I", .methodLink RX6 95 yX6_isStep, .instanceMethod yX6_isStep, .selects RX6 yX6_isStep yX6_isStep, .initialized RX6, .code yX6_isStep cX6_isStep 3 (some .boolean), .fieldLink RX6 7 "LendThreadsModel" "steps" "[I", .methodLink RX6 91 yX6_isWork, .instanceMethod yX6_isWork, .selects RX6 yX6_isWork yX6_isWork, .code yX6_isWork cX6_isWork 2 (some .boolean), .fieldLink RX6 84 "LendThreadsModel" "works" "I", .methodLink RX6 87 yX6_in, .static yX6_in, .code yX6_in cX6_in 3 (some .boolean)] ++ wsX60)
def wsX6_sends : List Cond := .code yX6_sends cX6_sends 5 (some .int) :: ([.fieldLink RX6 80 "LendThreadsModel" "thrown" "I", .fieldLink RX6 28 "LendThreadsModel" "begun" "[Z", .fieldLink RX6 50 "LendThreadsModel" "sendCount" "[I", .fieldLink RX6 53 "LendThreadsModel" "send" "[I", .methodLink RX6 95 yX6_isStep, .instanceMethod yX6_isStep, .selects RX6 yX6_isStep yX6_isStep, .initialized RX6, .code yX6_isStep cX6_isStep 3 (some .boolean), .fieldLink RX6 7 "LendThreadsModel" "steps" "[I", .methodLink RX6 91 yX6_isWork, .instanceMethod yX6_isWork, .selects RX6 yX6_isWork yX6_isWork, .code yX6_isWork cX6_isWork 2 (some .boolean), .fieldLink RX6 84 "LendThreadsModel" "works" "I", .methodLink RX6 87 yX6_in, .static yX6_in, .code yX6_in cX6_in 3 (some .boolean)] ++ wsX60)
def wsX6_loses : List Cond := .code yX6_loses cX6_loses 2 (some .int) :: ([.fieldLink RX6 80 "LendThreadsModel" "thrown" "I", .fieldLink RX6 99 "LendThreadsModel" "losing" "I", .methodLink RX6 87 yX6_in, .static yX6_in, .initialized RX6, .code yX6_in cX6_in 3 (some .boolean)] ++ wsX60)
def wsX6_ahead : List Cond := .code yX6_ahead cX6_ahead 5 (some .int) :: ([.fieldLink RX6 84 "LendThreadsModel" "works" "I", .fieldLink RX6 38 "LendThreadsModel" "waitsFor" "[I", .fieldLink RX6 41 "LendThreadsModel" "since" "[I"] ++ wsX60)
def wsX6_takes : List Cond := .code yX6_takes cX6_takes 3 (some .int) :: ([.fieldLink RX6 56 "LendThreadsModel" "owner" "[I", .fieldLink RX6 38 "LendThreadsModel" "waitsFor" "[I", .fieldLink RX6 22 "LendThreadsModel" "got" "[I", .fieldLink RX6 41 "LendThreadsModel" "since" "[I", .fieldLink RX6 106 "LendThreadsModel" "clock" "I", .methodLink RX6 102 yX6_ahead, .instanceMethod yX6_ahead, .selects RX6 yX6_ahead yX6_ahead, .initialized RX6, .code yX6_ahead cX6_ahead 5 (some .int), .fieldLink RX6 84 "LendThreadsModel" "works" "I"] ++ wsX60)
def wsX6_hears : List Cond := .code yX6_hears cX6_hears 4 (some .int) :: ([.fieldLink RX6 62 "LendThreadsModel" "there" "[I", .fieldLink RX6 22 "LendThreadsModel" "got" "[I", .fieldLink RX6 65 "LendThreadsModel" "lost" "[I", .fieldLink RX6 32 "LendThreadsModel" "asked" "[I"] ++ wsX60)
def wsX6_frees : List Cond := .code yX6_frees cX6_frees 4 none :: ([.fieldLink RX6 56 "LendThreadsModel" "owner" "[I", .fieldLink RX6 38 "LendThreadsModel" "waitsFor" "[I", .fieldLink RX6 109 "LendThreadsModel" "changes" "I", .fieldLink RX6 68 "LendThreadsModel" "changedBy" "[I", .fieldLink RX6 71 "LendThreadsModel" "changed" "[I", .fieldLink RX6 74 "LendThreadsModel" "before" "[I"] ++ wsX60)
def wsX6_undo : List Cond := .code yX6_undo cX6_undo 4 none :: ([.fieldLink RX6 109 "LendThreadsModel" "changes" "I", .fieldLink RX6 68 "LendThreadsModel" "changedBy" "[I", .fieldLink RX6 59 "LendThreadsModel" "value" "[I", .fieldLink RX6 71 "LendThreadsModel" "changed" "[I", .fieldLink RX6 74 "LendThreadsModel" "before" "[I", .fieldLink RX6 16 "LendThreadsModel" "state" "[I", .methodLink RX6 112 yX6_frees, .instanceMethod yX6_frees, .selects RX6 yX6_frees yX6_frees, .initialized RX6, .code yX6_frees cX6_frees 4 none, .fieldLink RX6 56 "LendThreadsModel" "owner" "[I", .fieldLink RX6 38 "LendThreadsModel" "waitsFor" "[I"] ++ wsX60)
def wsX6_acts : List Cond := .code yX6_acts cX6_acts 5 none :: ([.fieldLink RX6 19 "LendThreadsModel" "step" "[I", .fieldLink RX6 56 "LendThreadsModel" "owner" "[I", .fieldLink RX6 68 "LendThreadsModel" "changedBy" "[I", .fieldLink RX6 109 "LendThreadsModel" "changes" "I", .fieldLink RX6 71 "LendThreadsModel" "changed" "[I", .fieldLink RX6 74 "LendThreadsModel" "before" "[I", .fieldLink RX6 59 "LendThreadsModel" "value" "[I", .fieldLink RX6 116 "LendThreadsModel" "logged" "I", .fieldLink RX6 77 "LendThreadsModel" "log" "[I", .fieldLink RX6 50 "LendThreadsModel" "sendCount" "[I", .fieldLink RX6 53 "LendThreadsModel" "send" "[I", .fieldLink RX6 99 "LendThreadsModel" "losing" "I", .fieldLink RX6 65 "LendThreadsModel" "lost" "[I", .fieldLink RX6 62 "LendThreadsModel" "there" "[I", .fieldLink RX6 22 "LendThreadsModel" "got" "[I", .fieldLink RX6 7 "LendThreadsModel" "steps" "[I", .fieldLink RX6 16 "LendThreadsModel" "state" "[I", .methodLink RX6 112 yX6_frees, .instanceMethod yX6_frees, .selects RX6 yX6_frees yX6_frees, .initialized RX6, .code yX6_frees cX6_frees 4 none, .fieldLink RX6 38 "LendThreadsModel" "waitsFor" "[I"] ++ wsX60)
def wsX6_does_r1 : List Cond := [Cond.fieldLink RX6 16 "LendThreadsModel" "state" "[I", Cond.fieldLink RX6 28 "LendThreadsModel" "begun" "[Z", Cond.fieldLink RX6 19 "LendThreadsModel" "step" "[I", Cond.fieldLink RX6 22 "LendThreadsModel" "got" "[I", Cond.fieldLink RX6 44 "LendThreadsModel" "wantCount" "[I", Cond.fieldLink RX6 47 "LendThreadsModel" "want" "[I", Cond.fieldLink RX6 25 "LendThreadsModel" "latest" "[I", Cond.fieldLink RX6 13 "LendThreadsModel" "failsAt" "[I", Cond.methodLink RX6 91 yX6_isWork, Cond.instanceMethod yX6_isWork, Cond.selects RX6 yX6_isWork yX6_isWork, Cond.initialized RX6, Cond.code yX6_isWork cX6_isWork 2 (some .boolean), Cond.fieldLink RX6 84 "LendThreadsModel" "works" "I", Cond.methodLink RX6 87 yX6_in, Cond.static yX6_in, Cond.code yX6_in cX6_in 3 (some .boolean), Cond.methodLink RX6 119 yX6_takes, Cond.instanceMethod yX6_takes, Cond.selects RX6 yX6_takes yX6_takes, Cond.code yX6_takes cX6_takes 3 (some .int), Cond.fieldLink RX6 56 "LendThreadsModel" "owner" "[I", Cond.fieldLink RX6 38 "LendThreadsModel" "waitsFor" "[I", Cond.fieldLink RX6 41 "LendThreadsModel" "since" "[I"]
def wsX6_does_r2 : List Cond := [Cond.fieldLink RX6 106 "LendThreadsModel" "clock" "I", Cond.methodLink RX6 102 yX6_ahead, Cond.instanceMethod yX6_ahead, Cond.selects RX6 yX6_ahead yX6_ahead, Cond.code yX6_ahead cX6_ahead 5 (some .int), Cond.methodLink RX6 122 yX6_hears, Cond.instanceMethod yX6_hears, Cond.selects RX6 yX6_hears yX6_hears, Cond.code yX6_hears cX6_hears 4 (some .int), Cond.fieldLink RX6 62 "LendThreadsModel" "there" "[I", Cond.fieldLink RX6 65 "LendThreadsModel" "lost" "[I", Cond.fieldLink RX6 32 "LendThreadsModel" "asked" "[I", Cond.methodLink RX6 125 yX6_undo, Cond.instanceMethod yX6_undo, Cond.selects RX6 yX6_undo yX6_undo, Cond.code yX6_undo cX6_undo 4 none, Cond.fieldLink RX6 109 "LendThreadsModel" "changes" "I", Cond.fieldLink RX6 68 "LendThreadsModel" "changedBy" "[I", Cond.fieldLink RX6 59 "LendThreadsModel" "value" "[I", Cond.fieldLink RX6 71 "LendThreadsModel" "changed" "[I", Cond.fieldLink RX6 74 "LendThreadsModel" "before" "[I", Cond.methodLink RX6 112 yX6_frees, Cond.instanceMethod yX6_frees, Cond.selects RX6 yX6_frees yX6_frees]
def wsX6_does_r3 : List Cond := [Cond.code yX6_frees cX6_frees 4 none, Cond.methodLink RX6 129 yX6_acts, Cond.instanceMethod yX6_acts, Cond.selects RX6 yX6_acts yX6_acts, Cond.code yX6_acts cX6_acts 5 none, Cond.fieldLink RX6 116 "LendThreadsModel" "logged" "I", Cond.fieldLink RX6 77 "LendThreadsModel" "log" "[I", Cond.fieldLink RX6 50 "LendThreadsModel" "sendCount" "[I", Cond.fieldLink RX6 53 "LendThreadsModel" "send" "[I", Cond.fieldLink RX6 99 "LendThreadsModel" "losing" "I", Cond.fieldLink RX6 7 "LendThreadsModel" "steps" "[I"]
def wsX6_does : List Cond := .code yX6_does cX6_does 4 (some .int) :: ((wsX6_does_r1 ++ (wsX6_does_r2 ++ wsX6_does_r3)) ++ wsX60)
def wsX6_turn_r1 : List Cond := [Cond.fieldLink RX6 80 "LendThreadsModel" "thrown" "I", Cond.methodLink RX6 132 yX6_does, Cond.instanceMethod yX6_does, Cond.selects RX6 yX6_does yX6_does, Cond.initialized RX6, Cond.code yX6_does cX6_does 4 (some .int), Cond.fieldLink RX6 16 "LendThreadsModel" "state" "[I", Cond.fieldLink RX6 28 "LendThreadsModel" "begun" "[Z", Cond.fieldLink RX6 19 "LendThreadsModel" "step" "[I", Cond.fieldLink RX6 22 "LendThreadsModel" "got" "[I", Cond.fieldLink RX6 44 "LendThreadsModel" "wantCount" "[I", Cond.fieldLink RX6 47 "LendThreadsModel" "want" "[I", Cond.fieldLink RX6 25 "LendThreadsModel" "latest" "[I", Cond.fieldLink RX6 13 "LendThreadsModel" "failsAt" "[I", Cond.methodLink RX6 91 yX6_isWork, Cond.instanceMethod yX6_isWork, Cond.selects RX6 yX6_isWork yX6_isWork, Cond.code yX6_isWork cX6_isWork 2 (some .boolean), Cond.fieldLink RX6 84 "LendThreadsModel" "works" "I", Cond.methodLink RX6 87 yX6_in, Cond.static yX6_in, Cond.code yX6_in cX6_in 3 (some .boolean), Cond.methodLink RX6 119 yX6_takes, Cond.instanceMethod yX6_takes]
def wsX6_turn_r2 : List Cond := [Cond.selects RX6 yX6_takes yX6_takes, Cond.code yX6_takes cX6_takes 3 (some .int), Cond.fieldLink RX6 56 "LendThreadsModel" "owner" "[I", Cond.fieldLink RX6 38 "LendThreadsModel" "waitsFor" "[I", Cond.fieldLink RX6 41 "LendThreadsModel" "since" "[I", Cond.fieldLink RX6 106 "LendThreadsModel" "clock" "I", Cond.methodLink RX6 102 yX6_ahead, Cond.instanceMethod yX6_ahead, Cond.selects RX6 yX6_ahead yX6_ahead, Cond.code yX6_ahead cX6_ahead 5 (some .int), Cond.methodLink RX6 122 yX6_hears, Cond.instanceMethod yX6_hears, Cond.selects RX6 yX6_hears yX6_hears, Cond.code yX6_hears cX6_hears 4 (some .int), Cond.fieldLink RX6 62 "LendThreadsModel" "there" "[I", Cond.fieldLink RX6 65 "LendThreadsModel" "lost" "[I", Cond.fieldLink RX6 32 "LendThreadsModel" "asked" "[I", Cond.methodLink RX6 125 yX6_undo, Cond.instanceMethod yX6_undo, Cond.selects RX6 yX6_undo yX6_undo, Cond.code yX6_undo cX6_undo 4 none, Cond.fieldLink RX6 109 "LendThreadsModel" "changes" "I", Cond.fieldLink RX6 68 "LendThreadsModel" "changedBy" "[I", Cond.fieldLink RX6 59 "LendThreadsModel" "value" "[I"]
def wsX6_turn_r3 : List Cond := [Cond.fieldLink RX6 71 "LendThreadsModel" "changed" "[I", Cond.fieldLink RX6 74 "LendThreadsModel" "before" "[I", Cond.methodLink RX6 112 yX6_frees, Cond.instanceMethod yX6_frees, Cond.selects RX6 yX6_frees yX6_frees, Cond.code yX6_frees cX6_frees 4 none, Cond.methodLink RX6 129 yX6_acts, Cond.instanceMethod yX6_acts, Cond.selects RX6 yX6_acts yX6_acts, Cond.code yX6_acts cX6_acts 5 none, Cond.fieldLink RX6 116 "LendThreadsModel" "logged" "I", Cond.fieldLink RX6 77 "LendThreadsModel" "log" "[I", Cond.fieldLink RX6 50 "LendThreadsModel" "sendCount" "[I", Cond.fieldLink RX6 53 "LendThreadsModel" "send" "[I", Cond.fieldLink RX6 99 "LendThreadsModel" "losing" "I", Cond.fieldLink RX6 7 "LendThreadsModel" "steps" "[I"]
def wsX6_turn : List Cond := .code yX6_turn cX6_turn 2 (some .int) :: ((wsX6_turn_r1 ++ (wsX6_turn_r2 ++ wsX6_turn_r3)) ++ wsX60)
def wsX6_run_r1 : List Cond := [Cond.fieldLink RX6 80 "LendThreadsModel" "thrown" "I", Cond.fieldLink RX6 84 "LendThreadsModel" "works" "I", Cond.methodLink RX6 132 yX6_does, Cond.instanceMethod yX6_does, Cond.selects RX6 yX6_does yX6_does, Cond.initialized RX6, Cond.code yX6_does cX6_does 4 (some .int), Cond.fieldLink RX6 16 "LendThreadsModel" "state" "[I", Cond.fieldLink RX6 28 "LendThreadsModel" "begun" "[Z", Cond.fieldLink RX6 19 "LendThreadsModel" "step" "[I", Cond.fieldLink RX6 22 "LendThreadsModel" "got" "[I", Cond.fieldLink RX6 44 "LendThreadsModel" "wantCount" "[I", Cond.fieldLink RX6 47 "LendThreadsModel" "want" "[I", Cond.fieldLink RX6 25 "LendThreadsModel" "latest" "[I", Cond.fieldLink RX6 13 "LendThreadsModel" "failsAt" "[I", Cond.methodLink RX6 91 yX6_isWork, Cond.instanceMethod yX6_isWork, Cond.selects RX6 yX6_isWork yX6_isWork, Cond.code yX6_isWork cX6_isWork 2 (some .boolean), Cond.methodLink RX6 87 yX6_in, Cond.static yX6_in, Cond.code yX6_in cX6_in 3 (some .boolean), Cond.methodLink RX6 119 yX6_takes, Cond.instanceMethod yX6_takes]
def wsX6_run_r2 : List Cond := [Cond.selects RX6 yX6_takes yX6_takes, Cond.code yX6_takes cX6_takes 3 (some .int), Cond.fieldLink RX6 56 "LendThreadsModel" "owner" "[I", Cond.fieldLink RX6 38 "LendThreadsModel" "waitsFor" "[I", Cond.fieldLink RX6 41 "LendThreadsModel" "since" "[I", Cond.fieldLink RX6 106 "LendThreadsModel" "clock" "I", Cond.methodLink RX6 102 yX6_ahead, Cond.instanceMethod yX6_ahead, Cond.selects RX6 yX6_ahead yX6_ahead, Cond.code yX6_ahead cX6_ahead 5 (some .int), Cond.methodLink RX6 122 yX6_hears, Cond.instanceMethod yX6_hears, Cond.selects RX6 yX6_hears yX6_hears, Cond.code yX6_hears cX6_hears 4 (some .int), Cond.fieldLink RX6 62 "LendThreadsModel" "there" "[I", Cond.fieldLink RX6 65 "LendThreadsModel" "lost" "[I", Cond.fieldLink RX6 32 "LendThreadsModel" "asked" "[I", Cond.methodLink RX6 125 yX6_undo, Cond.instanceMethod yX6_undo, Cond.selects RX6 yX6_undo yX6_undo, Cond.code yX6_undo cX6_undo 4 none, Cond.fieldLink RX6 109 "LendThreadsModel" "changes" "I", Cond.fieldLink RX6 68 "LendThreadsModel" "changedBy" "[I", Cond.fieldLink RX6 59 "LendThreadsModel" "value" "[I"]
def wsX6_run_r3 : List Cond := [Cond.fieldLink RX6 71 "LendThreadsModel" "changed" "[I", Cond.fieldLink RX6 74 "LendThreadsModel" "before" "[I", Cond.methodLink RX6 112 yX6_frees, Cond.instanceMethod yX6_frees, Cond.selects RX6 yX6_frees yX6_frees, Cond.code yX6_frees cX6_frees 4 none, Cond.methodLink RX6 129 yX6_acts, Cond.instanceMethod yX6_acts, Cond.selects RX6 yX6_acts yX6_acts, Cond.code yX6_acts cX6_acts 5 none, Cond.fieldLink RX6 116 "LendThreadsModel" "logged" "I", Cond.fieldLink RX6 77 "LendThreadsModel" "log" "[I", Cond.fieldLink RX6 50 "LendThreadsModel" "sendCount" "[I", Cond.fieldLink RX6 53 "LendThreadsModel" "send" "[I", Cond.fieldLink RX6 99 "LendThreadsModel" "losing" "I", Cond.fieldLink RX6 7 "LendThreadsModel" "steps" "[I"]
def wsX6_run : List Cond := .code yX6_run cX6_run 5 (some .int) :: ((wsX6_run_r1 ++ (wsX6_run_r2 ++ wsX6_run_r3)) ++ wsX60)
def wsX6_waitsOn : List Cond := .code yX6_waitsOn cX6_waitsOn 2 (some .int) :: ([.fieldLink RX6 38 "LendThreadsModel" "waitsFor" "[I", .fieldLink RX6 56 "LendThreadsModel" "owner" "[I"] ++ wsX60)
def wsX6_ring : List Cond := .code yX6_ring cX6_ring 5 (some .int) :: ([.fieldLink RX6 80 "LendThreadsModel" "thrown" "I", .fieldLink RX6 84 "LendThreadsModel" "works" "I", .methodLink RX6 136 yX6_waitsOn, .instanceMethod yX6_waitsOn, .selects RX6 yX6_waitsOn yX6_waitsOn, .initialized RX6, .code yX6_waitsOn cX6_waitsOn 2 (some .int), .fieldLink RX6 38 "LendThreadsModel" "waitsFor" "[I", .fieldLink RX6 56 "LendThreadsModel" "owner" "[I", .methodLink RX6 125 yX6_undo, .instanceMethod yX6_undo, .selects RX6 yX6_undo yX6_undo, .code yX6_undo cX6_undo 4 none, .fieldLink RX6 109 "LendThreadsModel" "changes" "I", .fieldLink RX6 68 "LendThreadsModel" "changedBy" "[I", .fieldLink RX6 59 "LendThreadsModel" "value" "[I", .fieldLink RX6 71 "LendThreadsModel" "changed" "[I", .fieldLink RX6 74 "LendThreadsModel" "before" "[I", .fieldLink RX6 16 "LendThreadsModel" "state" "[I", .methodLink RX6 112 yX6_frees, .instanceMethod yX6_frees, .selects RX6 yX6_frees yX6_frees, .code yX6_frees cX6_frees 4 none] ++ wsX60)
def wsX6_interrupt_r1 : List Cond := [Cond.fieldLink RX6 80 "LendThreadsModel" "thrown" "I", Cond.fieldLink RX6 16 "LendThreadsModel" "state" "[I", Cond.fieldLink RX6 25 "LendThreadsModel" "latest" "[I", Cond.methodLink RX6 91 yX6_isWork, Cond.instanceMethod yX6_isWork, Cond.selects RX6 yX6_isWork yX6_isWork, Cond.initialized RX6, Cond.code yX6_isWork cX6_isWork 2 (some .boolean), Cond.fieldLink RX6 84 "LendThreadsModel" "works" "I", Cond.methodLink RX6 87 yX6_in, Cond.static yX6_in, Cond.code yX6_in cX6_in 3 (some .boolean), Cond.methodLink RX6 125 yX6_undo, Cond.instanceMethod yX6_undo, Cond.selects RX6 yX6_undo yX6_undo, Cond.code yX6_undo cX6_undo 4 none, Cond.fieldLink RX6 109 "LendThreadsModel" "changes" "I", Cond.fieldLink RX6 68 "LendThreadsModel" "changedBy" "[I", Cond.fieldLink RX6 59 "LendThreadsModel" "value" "[I", Cond.fieldLink RX6 71 "LendThreadsModel" "changed" "[I", Cond.fieldLink RX6 74 "LendThreadsModel" "before" "[I", Cond.methodLink RX6 112 yX6_frees, Cond.instanceMethod yX6_frees, Cond.selects RX6 yX6_frees yX6_frees]
def wsX6_interrupt_r2 : List Cond := [Cond.code yX6_frees cX6_frees 4 none, Cond.fieldLink RX6 56 "LendThreadsModel" "owner" "[I", Cond.fieldLink RX6 38 "LendThreadsModel" "waitsFor" "[I"]
def wsX6_interrupt : List Cond := .code yX6_interrupt cX6_interrupt 2 (some .int) :: ((wsX6_interrupt_r1 ++ wsX6_interrupt_r2) ++ wsX60)
def wsX6_again : List Cond := .code yX6_again cX6_again 2 (some .int) :: ([.fieldLink RX6 80 "LendThreadsModel" "thrown" "I", .fieldLink RX6 16 "LendThreadsModel" "state" "[I", .fieldLink RX6 19 "LendThreadsModel" "step" "[I", .fieldLink RX6 22 "LendThreadsModel" "got" "[I", .fieldLink RX6 25 "LendThreadsModel" "latest" "[I", .fieldLink RX6 13 "LendThreadsModel" "failsAt" "[I", .fieldLink RX6 35 "LendThreadsModel" "again" "[I", .methodLink RX6 91 yX6_isWork, .instanceMethod yX6_isWork, .selects RX6 yX6_isWork yX6_isWork, .initialized RX6, .code yX6_isWork cX6_isWork 2 (some .boolean), .fieldLink RX6 84 "LendThreadsModel" "works" "I", .methodLink RX6 87 yX6_in, .static yX6_in, .code yX6_in cX6_in 3 (some .boolean)] ++ wsX60)
def wsX6_close : List Cond := .code yX6_close cX6_close 3 (some .int) :: ([.fieldLink RX6 80 "LendThreadsModel" "thrown" "I", .fieldLink RX6 84 "LendThreadsModel" "works" "I", .fieldLink RX6 16 "LendThreadsModel" "state" "[I", .methodLink RX6 125 yX6_undo, .instanceMethod yX6_undo, .selects RX6 yX6_undo yX6_undo, .initialized RX6, .code yX6_undo cX6_undo 4 none, .fieldLink RX6 109 "LendThreadsModel" "changes" "I", .fieldLink RX6 68 "LendThreadsModel" "changedBy" "[I", .fieldLink RX6 59 "LendThreadsModel" "value" "[I", .fieldLink RX6 71 "LendThreadsModel" "changed" "[I", .fieldLink RX6 74 "LendThreadsModel" "before" "[I", .methodLink RX6 112 yX6_frees, .instanceMethod yX6_frees, .selects RX6 yX6_frees yX6_frees, .code yX6_frees cX6_frees 4 none, .fieldLink RX6 56 "LendThreadsModel" "owner" "[I", .fieldLink RX6 38 "LendThreadsModel" "waitsFor" "[I"] ++ wsX60)
def wsX6_state : List Cond := .code yX6_state cX6_state 5 (some .int) :: ([.fieldLink RX6 80 "LendThreadsModel" "thrown" "I", .fieldLink RX6 16 "LendThreadsModel" "state" "[I", .fieldLink RX6 19 "LendThreadsModel" "step" "[I", .fieldLink RX6 22 "LendThreadsModel" "got" "[I", .fieldLink RX6 56 "LendThreadsModel" "owner" "[I", .fieldLink RX6 32 "LendThreadsModel" "asked" "[I", .methodLink RX6 91 yX6_isWork, .instanceMethod yX6_isWork, .selects RX6 yX6_isWork yX6_isWork, .initialized RX6, .code yX6_isWork cX6_isWork 2 (some .boolean), .fieldLink RX6 84 "LendThreadsModel" "works" "I", .methodLink RX6 87 yX6_in, .static yX6_in, .code yX6_in cX6_in 3 (some .boolean)] ++ wsX60)
def wsX6_has : List Cond := .code yX6_has cX6_has 2 (some .int) :: ([.fieldLink RX6 80 "LendThreadsModel" "thrown" "I", .fieldLink RX6 56 "LendThreadsModel" "owner" "[I", .methodLink RX6 87 yX6_in, .static yX6_in, .initialized RX6, .code yX6_in cX6_in 3 (some .boolean)] ++ wsX60)
def wsX6_line : List Cond := .code yX6_line cX6_line 4 (some .int) :: ([.fieldLink RX6 80 "LendThreadsModel" "thrown" "I", .fieldLink RX6 84 "LendThreadsModel" "works" "I", .fieldLink RX6 38 "LendThreadsModel" "waitsFor" "[I", .methodLink RX6 87 yX6_in, .static yX6_in, .initialized RX6, .code yX6_in cX6_in 3 (some .boolean), .methodLink RX6 102 yX6_ahead, .instanceMethod yX6_ahead, .selects RX6 yX6_ahead yX6_ahead, .code yX6_ahead cX6_ahead 5 (some .int), .fieldLink RX6 41 "LendThreadsModel" "since" "[I"] ++ wsX60)
def wsX6_value : List Cond := .code yX6_value cX6_value 2 (some .int) :: ([.fieldLink RX6 80 "LendThreadsModel" "thrown" "I", .fieldLink RX6 59 "LendThreadsModel" "value" "[I", .methodLink RX6 87 yX6_in, .static yX6_in, .initialized RX6, .code yX6_in cX6_in 3 (some .boolean)] ++ wsX60)
def wsX6_log : List Cond := .code yX6_log cX6_log 2 (some .int) :: ([.fieldLink RX6 80 "LendThreadsModel" "thrown" "I", .fieldLink RX6 116 "LendThreadsModel" "logged" "I", .fieldLink RX6 77 "LendThreadsModel" "log" "[I", .methodLink RX6 87 yX6_in, .static yX6_in, .initialized RX6, .code yX6_in cX6_in 3 (some .boolean)] ++ wsX60)
def wsX6_mail : List Cond := .code yX6_mail cX6_mail 3 (some .int) :: ([.fieldLink RX6 80 "LendThreadsModel" "thrown" "I", .fieldLink RX6 62 "LendThreadsModel" "there" "[I", .methodLink RX6 91 yX6_isWork, .instanceMethod yX6_isWork, .selects RX6 yX6_isWork yX6_isWork, .initialized RX6, .code yX6_isWork cX6_isWork 2 (some .boolean), .fieldLink RX6 84 "LendThreadsModel" "works" "I", .methodLink RX6 87 yX6_in, .static yX6_in, .code yX6_in cX6_in 3 (some .boolean)] ++ wsX60)
def wsJ9_max_7cf53 : List Cond := .code yJ9_max_7cf53 cJ9_max_7cf53 2 (some .int) :: ([])
def wsL_value : List Cond := .codeWith yL_value cL_value 4 (some .int) [(0, 9, 12, 13)] :: ([.classLink RL 13 "java/lang/IndexOutOfBoundsException", .methodLink RL 7 yX5_value, .instanceMethod yX5_value, .selects RX5 yX5_value yX5_value, .initialized RX5, .code yX5_value cX5_value 2 (some .int), .classLink RX5 137 "java/lang/IndexOutOfBoundsException", .initialized "java/lang/IndexOutOfBoundsException", .fieldLink RX5 18 "LendThreads" "shelf" "LLendThreads$Shelf;", .methodLink RX5 64 yX5_isCopy, .static yX5_isCopy, .code yX5_isCopy cX5_isCopy 1 (some .boolean)] ++ wsX50 ++ wsX30 ++ (vx_atS RX5 141 "java/lang/IndexOutOfBoundsException" ["java/lang/RuntimeException", "java/lang/Exception"]).filter goodWord)
def wsL_law0_r1 : List Cond := [Cond.classLink RL 8 RX5, Cond.instantiable RX5 5, Cond.initialized RX5, Cond.classLink RL 16 RX6, Cond.instantiable RX6 29, Cond.initialized RX6, Cond.arrayClass .long, Cond.methodLink RL 15 yX5_init, Cond.instanceMethod yX5_init, Cond.code yX5_init cX5_init 2 none, Cond.methodLink RX5 1 objectInit, Cond.instanceMethod objectInit, Cond.code objectInit ⟨#[0xb1]⟩ 1 none, Cond.classLink RX5 9 RX4, Cond.fieldLink RX5 11 "LendThreads" "works" "[LLendThreads$Work;", Cond.classLink RX5 15 RX3, Cond.instantiable RX3 4, Cond.initialized RX3, Cond.fieldLink RX5 18 "LendThreads" "shelf" "LLendThreads$Shelf;", Cond.classLink RX5 22 RX1, Cond.instantiable RX1 3, Cond.initialized RX1, Cond.fieldLink RX5 25 "LendThreads" "post" "LLendThreads$Post;", Cond.classLink RX5 29 RX0]
def wsL_law0_r2 : List Cond := [Cond.instantiable RX0 1, Cond.initialized RX0, Cond.fieldLink RX5 32 "LendThreads" "diary" "LLendThreads$Diary;", Cond.instantiable RX4 12, Cond.initialized RX4, Cond.methodLink RX5 17 yX3_init, Cond.instanceMethod yX3_init, Cond.code yX3_init cX3_init 1 none, Cond.methodLink RX3 3 objectInit, Cond.arrayClass .int, Cond.fieldLink RX3 9 "LendThreads$Shelf" "values" "[I", Cond.fieldLink RX3 15 "LendThreads$Shelf" "valuesWhenTaken" "[I", Cond.fieldLink RX3 18 "LendThreads$Shelf" "holders" "[I", Cond.classLink RX3 21 RX2, Cond.instantiable RX2 3, Cond.initialized RX2, Cond.fieldLink RX3 26 "LendThreads$Shelf" "lines" "LLendThreads$Rows;", Cond.methodLink RX3 23 yX2_init, Cond.instanceMethod yX2_init, Cond.code yX2_init cX2_init 3 none, Cond.methodLink RX2 3 objectInit, Cond.fieldLink RX2 9 "LendThreads$Rows" "room" "I", Cond.fieldLink RX2 15 "LendThreads$Rows" "counts" "[I", Cond.fieldLink RX2 19 "LendThreads$Rows" "items" "[I"]
def wsL_law0_r3 : List Cond := [Cond.methodLink RX3 30 yJ7_fill_53178, Cond.static yJ7_fill_53178, Cond.initialized RJ7, Cond.code yJ7_fill_53178 cJ7_fill_53178 4 none, Cond.instanceMethod yX1_init, Cond.code yX1_init cX1_init 1 none, Cond.methodLink RX1 3 objectInit, Cond.fieldLink RX1 9 "LendThreads$Post" "there" "[I", Cond.fieldLink RX1 15 "LendThreads$Post" "lost" "[I", Cond.instanceMethod yX0_init, Cond.code yX0_init cX0_init 1 none, Cond.methodLink RX0 3 objectInit, Cond.classLink RX0 9 RX2, Cond.fieldLink RX0 14 "LendThreads$Diary" "lines" "LLendThreads$Rows;", Cond.methodLink RX0 11 yX2_init, Cond.methodLink RX5 36 yX4_init, Cond.instanceMethod yX4_init, Cond.code yX4_init cX4_init 2 none, Cond.methodLink RX4 3 objectInit, Cond.classLink RX4 9 RX2, Cond.fieldLink RX4 14 "LendThreads$Work" "wanted" "LLendThreads$Rows;", Cond.fieldLink RX4 20 "LendThreads$Work" "receivers" "LLendThreads$Rows;", Cond.fieldLink RX4 23 "LendThreads$Work" "failsAt" "I", Cond.fieldLink RX4 27 "LendThreads$Work" "state" "I"]
def wsL_law0_r4 : List Cond := [Cond.fieldLink RX4 30 "LendThreads$Work" "latest" "I", Cond.fieldLink RX4 33 "LendThreads$Work" "number" "I", Cond.methodLink RX4 11 yX2_init, Cond.methodLink RL 18 yX6_init, Cond.instanceMethod yX6_init, Cond.code yX6_init cX6_init 1 none, Cond.methodLink RX6 1 objectInit, Cond.fieldLink RX6 7 "LendThreadsModel" "steps" "[I", Cond.fieldLink RX6 13 "LendThreadsModel" "failsAt" "[I", Cond.fieldLink RX6 16 "LendThreadsModel" "state" "[I", Cond.fieldLink RX6 19 "LendThreadsModel" "step" "[I", Cond.fieldLink RX6 22 "LendThreadsModel" "got" "[I", Cond.fieldLink RX6 25 "LendThreadsModel" "latest" "[I", Cond.arrayClass .boolean, Cond.fieldLink RX6 28 "LendThreadsModel" "begun" "[Z", Cond.fieldLink RX6 32 "LendThreadsModel" "asked" "[I", Cond.fieldLink RX6 35 "LendThreadsModel" "again" "[I", Cond.fieldLink RX6 38 "LendThreadsModel" "waitsFor" "[I", Cond.fieldLink RX6 41 "LendThreadsModel" "since" "[I", Cond.fieldLink RX6 44 "LendThreadsModel" "wantCount" "[I", Cond.fieldLink RX6 47 "LendThreadsModel" "want" "[I", Cond.fieldLink RX6 50 "LendThreadsModel" "sendCount" "[I", Cond.fieldLink RX6 53 "LendThreadsModel" "send" "[I", Cond.fieldLink RX6 56 "LendThreadsModel" "owner" "[I"]
def wsL_law0_r5 : List Cond := [Cond.fieldLink RX6 59 "LendThreadsModel" "value" "[I", Cond.fieldLink RX6 62 "LendThreadsModel" "there" "[I", Cond.fieldLink RX6 65 "LendThreadsModel" "lost" "[I", Cond.fieldLink RX6 68 "LendThreadsModel" "changedBy" "[I", Cond.fieldLink RX6 71 "LendThreadsModel" "changed" "[I", Cond.fieldLink RX6 74 "LendThreadsModel" "before" "[I", Cond.fieldLink RX6 77 "LendThreadsModel" "log" "[I", Cond.methodLink RL 19 yX5_work, Cond.instanceMethod yX5_work, Cond.selects RX5 yX5_work yX5_work, Cond.code yX5_work cX5_work 4 (some .int), Cond.fieldLink RX5 39 "LendThreads" "workCount" "I", Cond.methodLink RL 23 yX6_work, Cond.instanceMethod yX6_work, Cond.selects RX6 yX6_work yX6_work, Cond.code yX6_work cX6_work 3 (some .int), Cond.fieldLink RX6 80 "LendThreadsModel" "thrown" "I", Cond.fieldLink RX6 84 "LendThreadsModel" "works" "I", Cond.methodLink RX6 87 yX6_in, Cond.static yX6_in, Cond.code yX6_in cX6_in 3 (some .boolean), Cond.methodLink RL 24 yX5_wants, Cond.instanceMethod yX5_wants, Cond.selects RX5 yX5_wants yX5_wants]
def wsL_law0_r6 : List Cond := [Cond.code yX5_wants cX5_wants 6 (some .int), Cond.methodLink RX5 52 yX5_find, Cond.instanceMethod yX5_find, Cond.selects RX5 yX5_find yX5_find, Cond.code yX5_find cX5_find 2 (some (.object "LendThreads$Work")), Cond.methodLink RX5 154 yX5_isWork, Cond.instanceMethod yX5_isWork, Cond.selects RX5 yX5_isWork yX5_isWork, Cond.code yX5_isWork cX5_isWork 2 (some .boolean), Cond.methodLink RX5 56 yX4_isStep, Cond.instanceMethod yX4_isStep, Cond.selects RX4 yX4_isStep yX4_isStep, Cond.code yX4_isStep cX4_isStep 2 (some .boolean), Cond.fieldLink RX4 36 "LendThreads$Work" "steps" "I", Cond.methodLink RX5 60 yX5_isOther, Cond.instanceMethod yX5_isOther, Cond.selects RX5 yX5_isOther yX5_isOther, Cond.code yX5_isOther cX5_isOther 3 (some .boolean), Cond.methodLink RX5 64 yX5_isCopy, Cond.static yX5_isCopy, Cond.code yX5_isCopy cX5_isCopy 1 (some .boolean), Cond.methodLink RX5 75 yX2_add, Cond.instanceMethod yX2_add, Cond.selects RX2 yX2_add yX2_add]
def wsL_law0_r7 : List Cond := [Cond.code yX2_add cX2_add 3 (some .int), Cond.methodLink RL 28 yX6_wants, Cond.instanceMethod yX6_wants, Cond.selects RX6 yX6_wants yX6_wants, Cond.code yX6_wants cX6_wants 6 (some .int), Cond.methodLink RX6 95 yX6_isStep, Cond.instanceMethod yX6_isStep, Cond.selects RX6 yX6_isStep yX6_isStep, Cond.code yX6_isStep cX6_isStep 3 (some .boolean), Cond.methodLink RX6 91 yX6_isWork, Cond.instanceMethod yX6_isWork, Cond.selects RX6 yX6_isWork yX6_isWork, Cond.code yX6_isWork cX6_isWork 2 (some .boolean), Cond.methodLink RL 29 yX5_sends, Cond.instanceMethod yX5_sends, Cond.selects RX5 yX5_sends yX5_sends, Cond.code yX5_sends cX5_sends 5 (some .int), Cond.methodLink RL 33 yX6_sends, Cond.instanceMethod yX6_sends, Cond.selects RX6 yX6_sends yX6_sends, Cond.code yX6_sends cX6_sends 5 (some .int), Cond.methodLink RL 34 yX5_loses, Cond.instanceMethod yX5_loses, Cond.selects RX5 yX5_loses yX5_loses]
def wsL_law0_r8 : List Cond := [Cond.code yX5_loses cX5_loses 2 (some .int), Cond.methodLink RL 37 yX6_loses, Cond.instanceMethod yX6_loses, Cond.selects RX6 yX6_loses yX6_loses, Cond.code yX6_loses cX6_loses 2 (some .int), Cond.fieldLink RX6 99 "LendThreadsModel" "losing" "I", Cond.methodLink RL 38 yX5_turn, Cond.instanceMethod yX5_turn, Cond.selects RX5 yX5_turn yX5_turn, Cond.code yX5_turn cX5_turn 3 (some .int), Cond.methodLink RX5 87 yX5_takeTurn, Cond.instanceMethod yX5_takeTurn, Cond.selects RX5 yX5_takeTurn yX5_takeTurn, Cond.code yX5_takeTurn cX5_takeTurn 2 (some .int), Cond.methodLink RX5 157 yX4_gotAll, Cond.instanceMethod yX4_gotAll, Cond.selects RX4 yX4_gotAll yX4_gotAll, Cond.code yX4_gotAll cX4_gotAll 1 (some .boolean), Cond.fieldLink RX4 39 "LendThreads$Work" "got" "I", Cond.fieldLink RX4 42 "LendThreads$Work" "step" "I", Cond.methodLink RX4 45 yX2_count, Cond.instanceMethod yX2_count, Cond.selects RX2 yX2_count yX2_count, Cond.code yX2_count cX2_count 2 (some .int)]
def wsL_law0_r9 : List Cond := [Cond.methodLink RX5 161 yX5_actOrFail, Cond.instanceMethod yX5_actOrFail, Cond.selects RX5 yX5_actOrFail yX5_actOrFail, Cond.code yX5_actOrFail cX5_actOrFail 2 (some .int), Cond.methodLink RX5 99 yX5_undo, Cond.instanceMethod yX5_undo, Cond.selects RX5 yX5_undo yX5_undo, Cond.code yX5_undo cX5_undo 3 none, Cond.methodLink RX5 208 yX3_restore, Cond.instanceMethod yX3_restore, Cond.selects RX3 yX3_restore yX3_restore, Cond.code yX3_restore cX3_restore 3 none, Cond.methodLink RX5 199 yX3_release, Cond.instanceMethod yX3_release, Cond.selects RX3 yX3_release yX3_release, Cond.code yX3_release cX3_release 3 none, Cond.methodLink RX3 40 yX2_remove, Cond.instanceMethod yX2_remove, Cond.selects RX2 yX2_remove yX2_remove, Cond.code yX2_remove cX2_remove 5 none, Cond.methodLink RX2 26 yX2_placeOf, Cond.instanceMethod yX2_placeOf, Cond.selects RX2 yX2_placeOf yX2_placeOf, Cond.code yX2_placeOf cX2_placeOf 5 (some .int)]
def wsL_law0_r10 : List Cond := [Cond.methodLink RX2 22 yX2_count, Cond.methodLink RX5 189 yX3_change, Cond.instanceMethod yX3_change, Cond.selects RX3 yX3_change yX3_change, Cond.code yX3_change cX3_change 4 none, Cond.methodLink RX5 192 yX0_write, Cond.instanceMethod yX0_write, Cond.selects RX0 yX0_write yX0_write, Cond.code yX0_write cX0_write 3 none, Cond.methodLink RX0 20 yX2_add, Cond.methodLink RX5 195 yX5_sendAll, Cond.instanceMethod yX5_sendAll, Cond.selects RX5 yX5_sendAll yX5_sendAll, Cond.code yX5_sendAll cX5_sendAll 4 none, Cond.methodLink RX5 202 yX2_count, Cond.methodLink RX5 134 yX2_item, Cond.instanceMethod yX2_item, Cond.selects RX2 yX2_item yX2_item, Cond.code yX2_item cX2_item 3 (some .int), Cond.methodLink RX5 148 yX1_way, Cond.static yX1_way, Cond.code yX1_way cX1_way 2 (some .int), Cond.methodLink RX5 205 yX1_send, Cond.instanceMethod yX1_send]
def wsL_law0_r11 : List Cond := [Cond.selects RX1 yX1_send yX1_send, Cond.code yX1_send cX1_send 2 none, Cond.fieldLink RX1 22 "LendThreads$Post" "toLose" "I", Cond.methodLink RX1 18 yX1_isWay, Cond.instanceMethod yX1_isWay, Cond.selects RX1 yX1_isWay yX1_isWay, Cond.code yX1_isWay cX1_isWay 2 (some .boolean), Cond.methodLink RX5 164 yX5_goForNext, Cond.instanceMethod yX5_goForNext, Cond.selects RX5 yX5_goForNext yX5_goForNext, Cond.code yX5_goForNext cX5_goForNext 4 (some .int), Cond.methodLink RX5 167 yX5_goForCopy, Cond.instanceMethod yX5_goForCopy, Cond.selects RX5 yX5_goForCopy yX5_goForCopy, Cond.code yX5_goForCopy cX5_goForCopy 3 (some .int), Cond.methodLink RX5 174 yX3_isFreeFor, Cond.instanceMethod yX3_isFreeFor, Cond.selects RX3 yX3_isFreeFor yX3_isFreeFor, Cond.code yX3_isFreeFor cX3_isFreeFor 4 (some .boolean), Cond.methodLink RX3 36 yX2_item, Cond.methodLink RX5 177 yX3_take, Cond.instanceMethod yX3_take, Cond.selects RX3 yX3_take yX3_take, Cond.code yX3_take cX3_take 3 none]
def wsL_law0_r12 : List Cond := [Cond.methodLink RX5 181 yX3_standInLine, Cond.instanceMethod yX3_standInLine, Cond.selects RX3 yX3_standInLine yX3_standInLine, Cond.code yX3_standInLine cX3_standInLine 3 none, Cond.methodLink RX3 43 yX2_placeOf, Cond.methodLink RX3 46 yX2_add, Cond.methodLink RX5 171 yX5_goForMessage, Cond.instanceMethod yX5_goForMessage, Cond.selects RX5 yX5_goForMessage yX5_goForMessage, Cond.code yX5_goForMessage cX5_goForMessage 4 (some .int), Cond.methodLink RX5 184 yX1_take, Cond.instanceMethod yX1_take, Cond.selects RX1 yX1_take yX1_take, Cond.code yX1_take cX1_take 2 (some .boolean), Cond.methodLink RX5 186 yX1_findLost, Cond.instanceMethod yX1_findLost, Cond.selects RX1 yX1_findLost yX1_findLost, Cond.code yX1_findLost cX1_findLost 2 (some .boolean), Cond.methodLink RL 41 yX6_turn, Cond.instanceMethod yX6_turn, Cond.selects RX6 yX6_turn yX6_turn, Cond.code yX6_turn cX6_turn 2 (some .int), Cond.methodLink RX6 132 yX6_does, Cond.instanceMethod yX6_does]
def wsL_law0_r13 : List Cond := [Cond.selects RX6 yX6_does yX6_does, Cond.code yX6_does cX6_does 4 (some .int), Cond.methodLink RX6 119 yX6_takes, Cond.instanceMethod yX6_takes, Cond.selects RX6 yX6_takes yX6_takes, Cond.code yX6_takes cX6_takes 3 (some .int), Cond.fieldLink RX6 106 "LendThreadsModel" "clock" "I", Cond.methodLink RX6 102 yX6_ahead, Cond.instanceMethod yX6_ahead, Cond.selects RX6 yX6_ahead yX6_ahead, Cond.code yX6_ahead cX6_ahead 5 (some .int), Cond.methodLink RX6 122 yX6_hears, Cond.instanceMethod yX6_hears, Cond.selects RX6 yX6_hears yX6_hears, Cond.code yX6_hears cX6_hears 4 (some .int), Cond.methodLink RX6 125 yX6_undo, Cond.instanceMethod yX6_undo, Cond.selects RX6 yX6_undo yX6_undo, Cond.code yX6_undo cX6_undo 4 none, Cond.fieldLink RX6 109 "LendThreadsModel" "changes" "I", Cond.methodLink RX6 112 yX6_frees, Cond.instanceMethod yX6_frees, Cond.selects RX6 yX6_frees yX6_frees, Cond.code yX6_frees cX6_frees 4 none]
def wsL_law0_r14 : List Cond := [Cond.methodLink RX6 129 yX6_acts, Cond.instanceMethod yX6_acts, Cond.selects RX6 yX6_acts yX6_acts, Cond.code yX6_acts cX6_acts 5 none, Cond.fieldLink RX6 116 "LendThreadsModel" "logged" "I", Cond.methodLink RL 42 yX5_run, Cond.instanceMethod yX5_run, Cond.selects RX5 yX5_run yX5_run, Cond.code yX5_run cX5_run 6 (some .int), Cond.constant RX5 91 (1000000), Cond.methodLink RX5 92 yX5_isWaiting, Cond.static yX5_isWaiting, Cond.code yX5_isWaiting cX5_isWaiting 1 (some .boolean), Cond.methodLink RL 46 yX6_run, Cond.instanceMethod yX6_run, Cond.selects RX6 yX6_run yX6_run, Cond.code yX6_run cX6_run 5 (some .int), Cond.methodLink RL 47 yX5_ring, Cond.instanceMethod yX5_ring, Cond.selects RX5 yX5_ring yX5_ring, Cond.code yX5_ring cX5_ring 3 (some .int), Cond.methodLink RX5 95 yX5_greatestInRingOf, Cond.instanceMethod yX5_greatestInRingOf, Cond.selects RX5 yX5_greatestInRingOf yX5_greatestInRingOf]
def wsL_law0_r15 : List Cond := [Cond.code yX5_greatestInRingOf cX5_greatestInRingOf 5 (some .int), Cond.methodLink RX5 214 Lib.Math.max.name, Cond.static Lib.Math.max.name, Cond.initialized "java/lang/Math", Cond.code Lib.Math.max.name Lib.Math.max.code 2 (some .int), Cond.methodLink RX5 211 yX3_holderAwaitedBy, Cond.instanceMethod yX3_holderAwaitedBy, Cond.selects RX3 yX3_holderAwaitedBy yX3_holderAwaitedBy, Cond.code yX3_holderAwaitedBy cX3_holderAwaitedBy 3 (some .int), Cond.methodLink RL 50 yX6_ring, Cond.instanceMethod yX6_ring, Cond.selects RX6 yX6_ring yX6_ring, Cond.code yX6_ring cX6_ring 5 (some .int), Cond.methodLink RX6 136 yX6_waitsOn, Cond.instanceMethod yX6_waitsOn, Cond.selects RX6 yX6_waitsOn yX6_waitsOn, Cond.code yX6_waitsOn cX6_waitsOn 2 (some .int), Cond.methodLink RL 51 yX5_interrupt, Cond.instanceMethod yX5_interrupt, Cond.selects RX5 yX5_interrupt yX5_interrupt, Cond.code yX5_interrupt cX5_interrupt 3 (some .int), Cond.methodLink RL 54 yX6_interrupt, Cond.instanceMethod yX6_interrupt, Cond.selects RX6 yX6_interrupt yX6_interrupt]
def wsL_law0_r16 : List Cond := [Cond.code yX6_interrupt cX6_interrupt 2 (some .int), Cond.methodLink RL 55 yX5_again, Cond.instanceMethod yX5_again, Cond.selects RX5 yX5_again yX5_again, Cond.code yX5_again cX5_again 3 (some .int), Cond.methodLink RX5 109 yX4_beginAgain, Cond.instanceMethod yX4_beginAgain, Cond.selects RX4 yX4_beginAgain yX4_beginAgain, Cond.code yX4_beginAgain cX4_beginAgain 1 none, Cond.fieldLink RX4 49 "LendThreads$Work" "begunAgain" "I", Cond.methodLink RL 58 yX6_again, Cond.instanceMethod yX6_again, Cond.selects RX6 yX6_again yX6_again, Cond.code yX6_again cX6_again 2 (some .int), Cond.methodLink RL 59 yX5_close, Cond.instanceMethod yX5_close, Cond.selects RX5 yX5_close yX5_close, Cond.code yX5_close cX5_close 3 (some .int), Cond.methodLink RL 62 yX6_close, Cond.instanceMethod yX6_close, Cond.selects RX6 yX6_close yX6_close, Cond.code yX6_close cX6_close 3 (some .int), Cond.methodLink RL 63 yX5_state, Cond.instanceMethod yX5_state]
def wsL_law0_r17 : List Cond := [Cond.selects RX5 yX5_state yX5_state, Cond.code yX5_state cX5_state 4 (some .int), Cond.methodLink RX5 121 yX3_countOf, Cond.instanceMethod yX3_countOf, Cond.selects RX3 yX3_countOf yX3_countOf, Cond.code yX3_countOf cX3_countOf 4 (some .int), Cond.methodLink RL 66 yX6_state, Cond.instanceMethod yX6_state, Cond.selects RX6 yX6_state yX6_state, Cond.code yX6_state cX6_state 5 (some .int), Cond.methodLink RL 67 yX5_has, Cond.instanceMethod yX5_has, Cond.selects RX5 yX5_has yX5_has, Cond.code yX5_has cX5_has 2 (some .int), Cond.methodLink RL 70 yX6_has, Cond.instanceMethod yX6_has, Cond.selects RX6 yX6_has yX6_has, Cond.code yX6_has cX6_has 2 (some .int), Cond.methodLink RL 71 yX5_line, Cond.instanceMethod yX5_line, Cond.selects RX5 yX5_line yX5_line, Cond.code yX5_line cX5_line 3 (some .int), Cond.methodLink RL 74 yX6_line, Cond.instanceMethod yX6_line]
def wsL_law0_r18 : List Cond := [Cond.selects RX6 yX6_line yX6_line, Cond.code yX6_line cX6_line 4 (some .int), Cond.methodLink RL 75 yL_value, Cond.static yL_value, Cond.initialized RL, Cond.codeWith yL_value cL_value 4 (some .int) [(0, 9, 12, 13)], Cond.classLink RL 13 "java/lang/IndexOutOfBoundsException", Cond.methodLink RL 7 yX5_value, Cond.instanceMethod yX5_value, Cond.selects RX5 yX5_value yX5_value, Cond.code yX5_value cX5_value 2 (some .int), Cond.classLink RX5 137 "java/lang/IndexOutOfBoundsException", Cond.initialized "java/lang/IndexOutOfBoundsException", Cond.methodLink RL 80 yX6_value, Cond.instanceMethod yX6_value, Cond.selects RX6 yX6_value yX6_value, Cond.code yX6_value cX6_value 2 (some .int), Cond.methodLink RL 81 yX5_log, Cond.instanceMethod yX5_log, Cond.selects RX5 yX5_log yX5_log, Cond.code yX5_log cX5_log 2 (some .int), Cond.methodLink RL 84 yX6_log, Cond.instanceMethod yX6_log, Cond.selects RX6 yX6_log yX6_log]
def wsL_law0_r19 : List Cond := [Cond.code yX6_log cX6_log 2 (some .int), Cond.methodLink RL 85 yX5_mail, Cond.instanceMethod yX5_mail, Cond.selects RX5 yX5_mail yX5_mail, Cond.code yX5_mail cX5_mail 3 (some .int), Cond.methodLink RX5 151 yX1_countThere, Cond.instanceMethod yX1_countThere, Cond.selects RX1 yX1_countThere yX1_countThere, Cond.code yX1_countThere cX1_countThere 2 (some .int), Cond.methodLink RL 88 yX6_mail, Cond.instanceMethod yX6_mail, Cond.selects RX6 yX6_mail yX6_mail, Cond.code yX6_mail cX6_mail 3 (some .int)]
def wsL_law0 : List Cond := (wsL_law0_r1 ++ (wsL_law0_r2 ++ (wsL_law0_r3 ++ (wsL_law0_r4 ++ (wsL_law0_r5 ++ (wsL_law0_r6 ++ (wsL_law0_r7 ++ (wsL_law0_r8 ++ (wsL_law0_r9 ++ (wsL_law0_r10 ++ (wsL_law0_r11 ++ (wsL_law0_r12 ++ (wsL_law0_r13 ++ (wsL_law0_r14 ++ (wsL_law0_r15 ++ (wsL_law0_r16 ++ (wsL_law0_r17 ++ (wsL_law0_r18 ++ wsL_law0_r19)))))))))))))))))) ++ wsX50 ++ wsX60 ++ wsX30 ++ wsX10 ++ wsX00 ++ wsX40 ++ wsX20 ++ ([] : List Cond)
def wsL_law : List Cond := wsL_law0 ++ (vx_atS RX5 141 "java/lang/IndexOutOfBoundsException" ["java/lang/RuntimeException", "java/lang/Exception"]).filter goodWord
end
section
theorem mem_r {big : List Cond} (ws : List Cond) (ps : List Nat) (hp : ws = ps.filterMap (fun i => big[i]?)) : ∀ w ∈ ws, w ∈ big := by
  intro w hw
  rw [hp] at hw
  obtain ⟨i, -, hi⟩ := List.mem_filterMap.mp hw
  exact List.mem_of_getElem? hi
set_option maxRecDepth 20000 in
theorem wsL_in_r1 : ∀ w ∈ wsL_law0_r1, w ∈ lw_tbl := mem_r _ [37, 38, 24, 474, 475, 31, 676, 39, 40, 41, 42, 43, 44, 45, 173, 47, 48, 25, 175, 89, 90, 28, 176, 106] (by decide +kernel)
set_option maxRecDepth 20000 in
theorem wsL_in_r2 : ∀ w ∈ wsL_law0_r2, w ∈ lw_tbl := mem_r _ [107, 29, 177, 119, 30, 49, 50, 51, 52, 69, 73, 75, 76, 53, 54, 26, 78, 55, 56, 57, 58, 59, 60, 61] (by decide +kernel)
set_option maxRecDepth 20000 in
theorem wsL_in_r3 : ∀ w ∈ wsL_law0_r3, w ∈ lw_tbl := mem_r _ [70, 71, 27, 72, 92, 93, 94, 95, 96, 109, 110, 111, 112, 114, 113, 120, 121, 122, 123, 124, 128, 130, 134, 136] (by decide +kernel)
set_option maxRecDepth 20000 in
theorem wsL_in_r4 : ∀ w ∈ wsL_law0_r4, w ∈ lw_tbl := mem_r _ [146, 126, 125, 476, 477, 478, 479, 482, 483, 484, 485, 486, 487, 568, 488, 489, 490, 491, 492, 494, 495, 496, 497, 498] (by decide +kernel)
set_option maxRecDepth 20000 in
theorem wsL_in_r5 : ∀ w ∈ wsL_law0_r5, w ∈ lw_tbl := mem_r _ [499, 500, 501, 504, 505, 506, 508, 189, 190, 191, 192, 174, 569, 570, 571, 572, 480, 481, 573, 574, 575, 193, 194, 195] (by decide +kernel)
set_option maxRecDepth 20000 in
theorem wsL_in_r6 : ∀ w ∈ wsL_law0_r6, w ∈ lw_tbl := mem_r _ [196, 197, 199, 0, 200, 201, 203, 1, 204, 205, 206, 207, 208, 132, 209, 211, 2, 212, 213, 214, 215, 216, 217, 218] (by decide +kernel)
set_option maxRecDepth 20000 in
theorem wsL_in_r7 : ∀ w ∈ wsL_law0_r7, w ∈ lw_tbl := mem_r _ [219, 576, 577, 578, 579, 580, 582, 13, 583, 584, 586, 14, 587, 220, 221, 222, 223, 588, 589, 590, 591, 224, 225, 226] (by decide +kernel)
set_option maxRecDepth 20000 in
theorem wsL_in_r8 : ∀ w ∈ wsL_law0_r8, w ∈ lw_tbl := mem_r _ [227, 592, 593, 594, 595, 502, 228, 229, 230, 231, 232, 234, 3, 235, 236, 237, 238, 239, 140, 138, 240, 241, 242, 243] (by decide +kernel)
set_option maxRecDepth 20000 in
theorem wsL_in_r9 : ∀ w ∈ wsL_law0_r9, w ∈ lw_tbl := mem_r _ [244, 246, 4, 247, 248, 250, 5, 251, 252, 253, 254, 255, 256, 257, 258, 259, 260, 261, 262, 263, 264, 265, 266, 267] (by decide +kernel)
set_option maxRecDepth 20000 in
theorem wsL_in_r10 : ∀ w ∈ wsL_law0_r10, w ∈ lw_tbl := mem_r _ [268, 269, 270, 271, 272, 273, 274, 275, 276, 277, 278, 280, 6, 281, 282, 283, 284, 285, 286, 287, 288, 289, 290, 291] (by decide +kernel)
set_option maxRecDepth 20000 in
theorem wsL_in_r11 : ∀ w ∈ wsL_law0_r11, w ∈ lw_tbl := mem_r _ [292, 293, 97, 294, 296, 7, 297, 298, 300, 8, 301, 302, 304, 9, 305, 306, 307, 308, 309, 310, 311, 312, 313, 314] (by decide +kernel)
set_option maxRecDepth 20000 in
theorem wsL_in_r12 : ∀ w ∈ wsL_law0_r12, w ∈ lw_tbl := mem_r _ [315, 316, 317, 318, 319, 320, 321, 323, 10, 324, 325, 326, 327, 328, 329, 330, 331, 332, 596, 597, 598, 599, 600, 602] (by decide +kernel)
set_option maxRecDepth 20000 in
theorem wsL_in_r13 : ∀ w ∈ wsL_law0_r13, w ∈ lw_tbl := mem_r _ [15, 603, 604, 606, 16, 607, 493, 608, 610, 17, 611, 612, 614, 18, 615, 616, 618, 19, 619, 503, 620, 622, 20, 623] (by decide +kernel)
set_option maxRecDepth 20000 in
theorem wsL_in_r14 : ∀ w ∈ wsL_law0_r14, w ∈ lw_tbl := mem_r _ [624, 626, 21, 627, 507, 333, 334, 335, 336, 337, 338, 339, 340, 628, 629, 630, 631, 341, 342, 343, 344, 345, 347, 11] (by decide +kernel)
set_option maxRecDepth 20000 in
theorem wsL_in_r15 : ∀ w ∈ wsL_law0_r15, w ∈ lw_tbl := mem_r _ [348, 353, 354, 32, 355, 349, 350, 351, 352, 632, 633, 634, 635, 636, 638, 22, 639, 356, 357, 358, 359, 640, 641, 642] (by decide +kernel)
set_option maxRecDepth 20000 in
theorem wsL_in_r16 : ∀ w ∈ wsL_law0_r16, w ∈ lw_tbl := mem_r _ [643, 360, 361, 362, 363, 364, 365, 366, 367, 143, 644, 645, 646, 647, 368, 369, 370, 371, 648, 649, 650, 651, 372, 373] (by decide +kernel)
set_option maxRecDepth 20000 in
theorem wsL_in_r17 : ∀ w ∈ wsL_law0_r17, w ∈ lw_tbl := mem_r _ [374, 375, 376, 377, 378, 379, 652, 653, 654, 655, 380, 381, 382, 383, 656, 657, 658, 659, 384, 385, 386, 387, 660, 661] (by decide +kernel)
set_option maxRecDepth 20000 in
theorem wsL_in_r18 : ∀ w ∈ wsL_law0_r18, w ∈ lw_tbl := mem_r _ [662, 663, 400, 401, 23, 402, 403, 404, 405, 406, 407, 408, 36, 664, 665, 666, 667, 388, 389, 390, 391, 668, 669, 670] (by decide +kernel)
set_option maxRecDepth 20000 in
theorem wsL_in_r19 : ∀ w ∈ wsL_law0_r19, w ∈ lw_tbl := mem_r _ [671, 392, 393, 394, 395, 396, 397, 398, 399, 672, 673, 674, 675] (by decide +kernel)
set_option maxRecDepth 20000 in
theorem wsL_in_X0 : ∀ w ∈ wsX00, w ∈ lw_tbl := mem_r _ [116] (by decide +kernel)
set_option maxRecDepth 20000 in
theorem wsL_in_X1 : ∀ w ∈ wsX10, w ∈ lw_tbl := mem_r _ [99, 101, 103] (by decide +kernel)
set_option maxRecDepth 20000 in
theorem wsL_in_X2 : ∀ w ∈ wsX20, w ∈ lw_tbl := mem_r _ [62, 64, 66] (by decide +kernel)
set_option maxRecDepth 20000 in
theorem wsL_in_X3 : ∀ w ∈ wsX30, w ∈ lw_tbl := mem_r _ [80, 82, 84, 86] (by decide +kernel)
set_option maxRecDepth 20000 in
theorem wsL_in_X4 : ∀ w ∈ wsX40, w ∈ lw_tbl := mem_r _ [148, 150, 152, 154, 156, 158, 160, 162, 164, 166, 168, 170] (by decide +kernel)
set_option maxRecDepth 20000 in
theorem wsL_in_X5 : ∀ w ∈ wsX50, w ∈ lw_tbl := mem_r _ [178, 180, 182, 184, 186] (by decide +kernel)
set_option maxRecDepth 20000 in
theorem wsL_in_X6 : ∀ w ∈ wsX60, w ∈ lw_tbl := mem_r _ [509, 511, 513, 515, 517, 519, 521, 523, 525, 527, 529, 531, 533, 535, 537, 539, 541, 543, 545, 547, 549, 551, 553, 555, 557, 559, 561, 563, 565] (by decide +kernel)
theorem wsL_law_in0 : ∀ w ∈ wsL_law0, w ∈ lw_tbl := by
  unfold wsL_law0
  exact List.forall_mem_append.mpr ⟨List.forall_mem_append.mpr ⟨List.forall_mem_append.mpr ⟨List.forall_mem_append.mpr ⟨List.forall_mem_append.mpr ⟨List.forall_mem_append.mpr ⟨List.forall_mem_append.mpr ⟨List.forall_mem_append.mpr ⟨List.forall_mem_append.mpr ⟨wsL_in_r1, List.forall_mem_append.mpr ⟨wsL_in_r2, List.forall_mem_append.mpr ⟨wsL_in_r3, List.forall_mem_append.mpr ⟨wsL_in_r4, List.forall_mem_append.mpr ⟨wsL_in_r5, List.forall_mem_append.mpr ⟨wsL_in_r6, List.forall_mem_append.mpr ⟨wsL_in_r7, List.forall_mem_append.mpr ⟨wsL_in_r8, List.forall_mem_append.mpr ⟨wsL_in_r9, List.forall_mem_append.mpr ⟨wsL_in_r10, List.forall_mem_append.mpr ⟨wsL_in_r11, List.forall_mem_append.mpr ⟨wsL_in_r12, List.forall_mem_append.mpr ⟨wsL_in_r13, List.forall_mem_append.mpr ⟨wsL_in_r14, List.forall_mem_append.mpr ⟨wsL_in_r15, List.forall_mem_append.mpr ⟨wsL_in_r16, List.forall_mem_append.mpr ⟨wsL_in_r17, List.forall_mem_append.mpr ⟨wsL_in_r18, wsL_in_r19⟩⟩⟩⟩⟩⟩⟩⟩⟩⟩⟩⟩⟩⟩⟩⟩⟩⟩, wsL_in_X5⟩, wsL_in_X6⟩, wsL_in_X3⟩, wsL_in_X1⟩, wsL_in_X0⟩, wsL_in_X4⟩, wsL_in_X2⟩, fun _ h => absurd h List.not_mem_nil⟩
end
section
theorem wsL_law_x0 : ∀ w ∈ (vx_atS RX5 141 "java/lang/IndexOutOfBoundsException" ["java/lang/RuntimeException", "java/lang/Exception"]).filter goodWord, w ∈ lw_tbl := by decide +kernel
theorem wsL_law_in : ∀ w ∈ wsL_law, w ∈ lw_tbl := fun w h => (List.mem_append.mp h).elim (fun h => wsL_law_in0 w h) (fun h => wsL_law_x0 w h)
theorem inlX0 : ∀ w ∈ wsX00, w ∈ wsL_law := fun _ h => List.mem_append_left _ (List.mem_append_left _ (List.mem_append_left _ (List.mem_append_left _ (List.mem_append_right _ h))))
theorem inX0 : ∀ w ∈ wsX00, w ∈ lw_tbl := fun w h => wsL_law_in w (inlX0 w h)
theorem inlX1 : ∀ w ∈ wsX10, w ∈ wsL_law := fun _ h => List.mem_append_left _ (List.mem_append_left _ (List.mem_append_left _ (List.mem_append_left _ (List.mem_append_left _ (List.mem_append_right _ h)))))
theorem inX1 : ∀ w ∈ wsX10, w ∈ lw_tbl := fun w h => wsL_law_in w (inlX1 w h)
theorem inlX2 : ∀ w ∈ wsX20, w ∈ wsL_law := fun _ h => List.mem_append_left _ (List.mem_append_left _ (List.mem_append_right _ h))
theorem inX2 : ∀ w ∈ wsX20, w ∈ lw_tbl := fun w h => wsL_law_in w (inlX2 w h)
theorem inlX3 : ∀ w ∈ wsX30, w ∈ wsL_law := fun _ h => List.mem_append_left _ (List.mem_append_left _ (List.mem_append_left _ (List.mem_append_left _ (List.mem_append_left _ (List.mem_append_left _ (List.mem_append_right _ h))))))
theorem inX3 : ∀ w ∈ wsX30, w ∈ lw_tbl := fun w h => wsL_law_in w (inlX3 w h)
theorem inlX4 : ∀ w ∈ wsX40, w ∈ wsL_law := fun _ h => List.mem_append_left _ (List.mem_append_left _ (List.mem_append_left _ (List.mem_append_right _ h)))
theorem inX4 : ∀ w ∈ wsX40, w ∈ lw_tbl := fun w h => wsL_law_in w (inlX4 w h)
theorem inlX5 : ∀ w ∈ wsX50, w ∈ wsL_law := fun _ h => List.mem_append_left _ (List.mem_append_left _ (List.mem_append_left _ (List.mem_append_left _ (List.mem_append_left _ (List.mem_append_left _ (List.mem_append_left _ (List.mem_append_left _ (List.mem_append_right _ h))))))))
theorem inX5 : ∀ w ∈ wsX50, w ∈ lw_tbl := fun w h => wsL_law_in w (inlX5 w h)
theorem inlX6 : ∀ w ∈ wsX60, w ∈ wsL_law := fun _ h => List.mem_append_left _ (List.mem_append_left _ (List.mem_append_left _ (List.mem_append_left _ (List.mem_append_left _ (List.mem_append_left _ (List.mem_append_left _ (List.mem_append_right _ h)))))))
theorem inX6 : ∀ w ∈ wsX60, w ∈ lw_tbl := fun w h => wsL_law_in w (inlX6 w h)
theorem inJ9 : ∀ w ∈ wsJ90, w ∈ lw_tbl := by decide +kernel
theorem inJ0 : ∀ w ∈ wsJ00, w ∈ lw_tbl := by decide +kernel
theorem inJ7 : ∀ w ∈ wsJ70, w ∈ lw_tbl := by decide +kernel
set_option maxRecDepth 20000 in
theorem ggX0_init_X2_init : GoodIn wsX0_init wsX2_init := goodIn_r _ [10, 11, 2, 3, 12, 13, 14, 15, 16, 17, 18] (by decide +kernel) (by decide +kernel)
set_option maxRecDepth 20000 in
theorem gX0_init_X2_init : GoodIn wsX0_init (wsX2_init) := ggX0_init_X2_init
theorem dX0_init_0 : decode cX0_init 0 = .ok (.aload_n 0, 1) := by decide +kernel
theorem dX0_init_1 : decode cX0_init 1 = .ok (.invokespecial 3, 3) := by decide +kernel
theorem dX0_init_4 : decode cX0_init 4 = .ok (.aload_n 0, 1) := by decide +kernel
theorem dX0_init_5 : decode cX0_init 5 = .ok (.new 9, 3) := by decide +kernel
theorem dX0_init_8 : decode cX0_init 8 = .ok (.dup, 1) := by decide +kernel
theorem dX0_init_9 : decode cX0_init 9 = .ok (.iconst 1, 1) := by decide +kernel
theorem dX0_init_10 : decode cX0_init 10 = .ok (.sipush 300, 3) := by decide +kernel
theorem dX0_init_13 : decode cX0_init 13 = .ok (.invokespecial 11, 3) := by decide +kernel
theorem dX0_init_16 : decode cX0_init 16 = .ok (.putfield 14, 3) := by decide +kernel
theorem dX0_init_19 : decode cX0_init 19 = .ok (.return_, 1) := by decide +kernel
set_option maxRecDepth 20000 in
theorem ggX0_write_X2_add : GoodIn wsX0_write wsX2_add := goodIn_r _ [6, 7, 8, 9, 11, 12, 13] (by decide +kernel) (by decide +kernel)
set_option maxRecDepth 20000 in
theorem gX0_write_X2_add : GoodIn wsX0_write (wsV RX0 20 RX2 yX2_add wsX2_add) := goodIn_app (goodIn_of _ (by decide +kernel)) ggX0_write_X2_add
theorem dX0_write_0 : decode cX0_write 0 = .ok (.aload_n 0, 1) := by decide +kernel
theorem dX0_write_1 : decode cX0_write 1 = .ok (.getfield 14, 3) := by decide +kernel
theorem dX0_write_4 : decode cX0_write 4 = .ok (.iconst 0, 1) := by decide +kernel
theorem dX0_write_5 : decode cX0_write 5 = .ok (.bipush 100, 2) := by decide +kernel
theorem dX0_write_7 : decode cX0_write 7 = .ok (.iload_n 1, 1) := by decide +kernel
theorem dX0_write_8 : decode cX0_write 8 = .ok (.imul, 1) := by decide +kernel
theorem dX0_write_9 : decode cX0_write 9 = .ok (.iload_n 2, 1) := by decide +kernel
theorem dX0_write_10 : decode cX0_write 10 = .ok (.iadd, 1) := by decide +kernel
theorem dX0_write_11 : decode cX0_write 11 = .ok (.invokevirtual 20, 3) := by decide +kernel
theorem dX0_write_14 : decode cX0_write 14 = .ok (.pop, 1) := by decide +kernel
theorem dX0_write_15 : decode cX0_write 15 = .ok (.return_, 1) := by decide +kernel
theorem dX1_init_0 : decode cX1_init 0 = .ok (.aload_n 0, 1) := by decide +kernel
theorem dX1_init_1 : decode cX1_init 1 = .ok (.invokespecial 3, 3) := by decide +kernel
theorem dX1_init_4 : decode cX1_init 4 = .ok (.aload_n 0, 1) := by decide +kernel
theorem dX1_init_5 : decode cX1_init 5 = .ok (.sipush 144, 3) := by decide +kernel
theorem dX1_init_8 : decode cX1_init 8 = .ok (.newarray .int, 2) := by decide +kernel
theorem dX1_init_10 : decode cX1_init 10 = .ok (.putfield 9, 3) := by decide +kernel
theorem dX1_init_13 : decode cX1_init 13 = .ok (.aload_n 0, 1) := by decide +kernel
theorem dX1_init_14 : decode cX1_init 14 = .ok (.sipush 144, 3) := by decide +kernel
theorem dX1_init_17 : decode cX1_init 17 = .ok (.newarray .int, 2) := by decide +kernel
theorem dX1_init_19 : decode cX1_init 19 = .ok (.putfield 15, 3) := by decide +kernel
theorem dX1_init_22 : decode cX1_init 22 = .ok (.return_, 1) := by decide +kernel
theorem dX1_way_0 : decode cX1_way 0 = .ok (.iload_n 0, 1) := by decide +kernel
theorem dX1_way_1 : decode cX1_way 1 = .ok (.bipush 12, 2) := by decide +kernel
theorem dX1_way_3 : decode cX1_way 3 = .ok (.imul, 1) := by decide +kernel
theorem dX1_way_4 : decode cX1_way 4 = .ok (.iload_n 1, 1) := by decide +kernel
theorem dX1_way_5 : decode cX1_way 5 = .ok (.iadd, 1) := by decide +kernel
theorem dX1_way_6 : decode cX1_way 6 = .ok (.ireturn, 1) := by decide +kernel
theorem dX1_isWay_0 : decode cX1_isWay 0 = .ok (.iload_n 1, 1) := by decide +kernel
theorem dX1_isWay_1 : decode cX1_isWay 1 = .ok (.ifCond .lt 25, 3) := by decide +kernel
theorem dX1_isWay_4 : decode cX1_isWay 4 = .ok (.iload_n 1, 1) := by decide +kernel
theorem dX1_isWay_5 : decode cX1_isWay 5 = .ok (.aload_n 0, 1) := by decide +kernel
theorem dX1_isWay_6 : decode cX1_isWay 6 = .ok (.getfield 9, 3) := by decide +kernel
theorem dX1_isWay_9 : decode cX1_isWay 9 = .ok (.arraylength, 1) := by decide +kernel
theorem dX1_isWay_10 : decode cX1_isWay 10 = .ok (.if_icmp .ge 16, 3) := by decide +kernel
theorem dX1_isWay_13 : decode cX1_isWay 13 = .ok (.iload_n 1, 1) := by decide +kernel
theorem dX1_isWay_14 : decode cX1_isWay 14 = .ok (.aload_n 0, 1) := by decide +kernel
theorem dX1_isWay_15 : decode cX1_isWay 15 = .ok (.getfield 15, 3) := by decide +kernel
theorem dX1_isWay_18 : decode cX1_isWay 18 = .ok (.arraylength, 1) := by decide +kernel
theorem dX1_isWay_19 : decode cX1_isWay 19 = .ok (.if_icmp .ge 7, 3) := by decide +kernel
theorem dX1_isWay_22 : decode cX1_isWay 22 = .ok (.iconst 1, 1) := by decide +kernel
theorem dX1_isWay_23 : decode cX1_isWay 23 = .ok (.goto 4, 3) := by decide +kernel
theorem dX1_isWay_26 : decode cX1_isWay 26 = .ok (.iconst 0, 1) := by decide +kernel
theorem dX1_isWay_27 : decode cX1_isWay 27 = .ok (.ireturn, 1) := by decide +kernel
set_option maxRecDepth 20000 in
theorem ggX1_countThere_X1_isWay : GoodIn wsX1_countThere wsX1_isWay := goodIn_r _ [6, 1, 7, 8, 9, 10] (by decide +kernel) (by decide +kernel)
set_option maxRecDepth 20000 in
theorem gX1_countThere_X1_isWay : GoodIn wsX1_countThere (wsV RX1 18 RX1 yX1_isWay wsX1_isWay) := goodIn_app (goodIn_of _ (by decide +kernel)) ggX1_countThere_X1_isWay
theorem dX1_countThere_0 : decode cX1_countThere 0 = .ok (.aload_n 0, 1) := by decide +kernel
theorem dX1_countThere_1 : decode cX1_countThere 1 = .ok (.iload_n 1, 1) := by decide +kernel
theorem dX1_countThere_2 : decode cX1_countThere 2 = .ok (.invokevirtual 18, 3) := by decide +kernel
theorem dX1_countThere_5 : decode cX1_countThere 5 = .ok (.ifCond .eq 12, 3) := by decide +kernel
theorem dX1_countThere_8 : decode cX1_countThere 8 = .ok (.aload_n 0, 1) := by decide +kernel
theorem dX1_countThere_9 : decode cX1_countThere 9 = .ok (.getfield 9, 3) := by decide +kernel
theorem dX1_countThere_12 : decode cX1_countThere 12 = .ok (.iload_n 1, 1) := by decide +kernel
theorem dX1_countThere_13 : decode cX1_countThere 13 = .ok (.iaload, 1) := by decide +kernel
theorem dX1_countThere_14 : decode cX1_countThere 14 = .ok (.goto 4, 3) := by decide +kernel
theorem dX1_countThere_17 : decode cX1_countThere 17 = .ok (.iconst 0, 1) := by decide +kernel
theorem dX1_countThere_18 : decode cX1_countThere 18 = .ok (.ireturn, 1) := by decide +kernel
set_option maxRecDepth 20000 in
theorem ggX1_send_X1_isWay : GoodIn wsX1_send wsX1_isWay := goodIn_r _ [8, 3, 2, 9, 10, 11] (by decide +kernel) (by decide +kernel)
set_option maxRecDepth 20000 in
theorem gX1_send_X1_isWay : GoodIn wsX1_send (wsV RX1 18 RX1 yX1_isWay wsX1_isWay) := goodIn_app (goodIn_of _ (by decide +kernel)) ggX1_send_X1_isWay
theorem dX1_send_0 : decode cX1_send 0 = .ok (.aload_n 0, 1) := by decide +kernel
theorem dX1_send_1 : decode cX1_send 1 = .ok (.iload_n 1, 1) := by decide +kernel
theorem dX1_send_2 : decode cX1_send 2 = .ok (.invokevirtual 18, 3) := by decide +kernel
theorem dX1_send_5 : decode cX1_send 5 = .ok (.ifCond .ne 4, 3) := by decide +kernel
theorem dX1_send_8 : decode cX1_send 8 = .ok (.return_, 1) := by decide +kernel
theorem dX1_send_9 : decode cX1_send 9 = .ok (.aload_n 0, 1) := by decide +kernel
theorem dX1_send_10 : decode cX1_send 10 = .ok (.getfield 22, 3) := by decide +kernel
theorem dX1_send_13 : decode cX1_send 13 = .ok (.ifCond .le 26, 3) := by decide +kernel
theorem dX1_send_16 : decode cX1_send 16 = .ok (.aload_n 0, 1) := by decide +kernel
theorem dX1_send_17 : decode cX1_send 17 = .ok (.dup, 1) := by decide +kernel
theorem dX1_send_18 : decode cX1_send 18 = .ok (.getfield 22, 3) := by decide +kernel
theorem dX1_send_21 : decode cX1_send 21 = .ok (.iconst 1, 1) := by decide +kernel
theorem dX1_send_22 : decode cX1_send 22 = .ok (.isub, 1) := by decide +kernel
theorem dX1_send_23 : decode cX1_send 23 = .ok (.putfield 22, 3) := by decide +kernel
theorem dX1_send_26 : decode cX1_send 26 = .ok (.aload_n 0, 1) := by decide +kernel
theorem dX1_send_27 : decode cX1_send 27 = .ok (.getfield 15, 3) := by decide +kernel
theorem dX1_send_30 : decode cX1_send 30 = .ok (.iload_n 1, 1) := by decide +kernel
theorem dX1_send_31 : decode cX1_send 31 = .ok (.dup2, 1) := by decide +kernel
theorem dX1_send_32 : decode cX1_send 32 = .ok (.iaload, 1) := by decide +kernel
theorem dX1_send_33 : decode cX1_send 33 = .ok (.iconst 1, 1) := by decide +kernel
theorem dX1_send_34 : decode cX1_send 34 = .ok (.iadd, 1) := by decide +kernel
theorem dX1_send_35 : decode cX1_send 35 = .ok (.iastore, 1) := by decide +kernel
theorem dX1_send_36 : decode cX1_send 36 = .ok (.goto 13, 3) := by decide +kernel
theorem dX1_send_39 : decode cX1_send 39 = .ok (.aload_n 0, 1) := by decide +kernel
theorem dX1_send_40 : decode cX1_send 40 = .ok (.getfield 9, 3) := by decide +kernel
theorem dX1_send_43 : decode cX1_send 43 = .ok (.iload_n 1, 1) := by decide +kernel
theorem dX1_send_44 : decode cX1_send 44 = .ok (.dup2, 1) := by decide +kernel
theorem dX1_send_45 : decode cX1_send 45 = .ok (.iaload, 1) := by decide +kernel
theorem dX1_send_46 : decode cX1_send 46 = .ok (.iconst 1, 1) := by decide +kernel
theorem dX1_send_47 : decode cX1_send 47 = .ok (.iadd, 1) := by decide +kernel
theorem dX1_send_48 : decode cX1_send 48 = .ok (.iastore, 1) := by decide +kernel
theorem dX1_send_49 : decode cX1_send 49 = .ok (.return_, 1) := by decide +kernel
set_option maxRecDepth 20000 in
theorem ggX1_take_X1_isWay : GoodIn wsX1_take wsX1_isWay := goodIn_r _ [6, 1, 7, 8, 9, 10] (by decide +kernel) (by decide +kernel)
set_option maxRecDepth 20000 in
theorem gX1_take_X1_isWay : GoodIn wsX1_take (wsV RX1 18 RX1 yX1_isWay wsX1_isWay) := goodIn_app (goodIn_of _ (by decide +kernel)) ggX1_take_X1_isWay
theorem dX1_take_0 : decode cX1_take 0 = .ok (.aload_n 0, 1) := by decide +kernel
theorem dX1_take_1 : decode cX1_take 1 = .ok (.iload_n 1, 1) := by decide +kernel
theorem dX1_take_2 : decode cX1_take 2 = .ok (.invokevirtual 18, 3) := by decide +kernel
theorem dX1_take_5 : decode cX1_take 5 = .ok (.ifCond .eq 12, 3) := by decide +kernel
theorem dX1_take_8 : decode cX1_take 8 = .ok (.aload_n 0, 1) := by decide +kernel
theorem dX1_take_9 : decode cX1_take 9 = .ok (.getfield 9, 3) := by decide +kernel
theorem dX1_take_12 : decode cX1_take 12 = .ok (.iload_n 1, 1) := by decide +kernel
theorem dX1_take_13 : decode cX1_take 13 = .ok (.iaload, 1) := by decide +kernel
theorem dX1_take_14 : decode cX1_take 14 = .ok (.ifCond .gt 5, 3) := by decide +kernel
theorem dX1_take_17 : decode cX1_take 17 = .ok (.iconst 0, 1) := by decide +kernel
theorem dX1_take_18 : decode cX1_take 18 = .ok (.ireturn, 1) := by decide +kernel
theorem dX1_take_19 : decode cX1_take 19 = .ok (.aload_n 0, 1) := by decide +kernel
theorem dX1_take_20 : decode cX1_take 20 = .ok (.getfield 9, 3) := by decide +kernel
theorem dX1_take_23 : decode cX1_take 23 = .ok (.iload_n 1, 1) := by decide +kernel
theorem dX1_take_24 : decode cX1_take 24 = .ok (.dup2, 1) := by decide +kernel
theorem dX1_take_25 : decode cX1_take 25 = .ok (.iaload, 1) := by decide +kernel
theorem dX1_take_26 : decode cX1_take 26 = .ok (.iconst 1, 1) := by decide +kernel
theorem dX1_take_27 : decode cX1_take 27 = .ok (.isub, 1) := by decide +kernel
theorem dX1_take_28 : decode cX1_take 28 = .ok (.iastore, 1) := by decide +kernel
theorem dX1_take_29 : decode cX1_take 29 = .ok (.iconst 1, 1) := by decide +kernel
theorem dX1_take_30 : decode cX1_take 30 = .ok (.ireturn, 1) := by decide +kernel
set_option maxRecDepth 20000 in
theorem ggX1_findLost_X1_isWay : GoodIn wsX1_findLost wsX1_isWay := goodIn_r _ [7, 2, 1, 8, 9, 10] (by decide +kernel) (by decide +kernel)
set_option maxRecDepth 20000 in
theorem gX1_findLost_X1_isWay : GoodIn wsX1_findLost (wsV RX1 18 RX1 yX1_isWay wsX1_isWay) := goodIn_app (goodIn_of _ (by decide +kernel)) ggX1_findLost_X1_isWay
theorem dX1_findLost_0 : decode cX1_findLost 0 = .ok (.aload_n 0, 1) := by decide +kernel
theorem dX1_findLost_1 : decode cX1_findLost 1 = .ok (.iload_n 1, 1) := by decide +kernel
theorem dX1_findLost_2 : decode cX1_findLost 2 = .ok (.invokevirtual 18, 3) := by decide +kernel
theorem dX1_findLost_5 : decode cX1_findLost 5 = .ok (.ifCond .eq 12, 3) := by decide +kernel
theorem dX1_findLost_8 : decode cX1_findLost 8 = .ok (.aload_n 0, 1) := by decide +kernel
theorem dX1_findLost_9 : decode cX1_findLost 9 = .ok (.getfield 15, 3) := by decide +kernel
theorem dX1_findLost_12 : decode cX1_findLost 12 = .ok (.iload_n 1, 1) := by decide +kernel
theorem dX1_findLost_13 : decode cX1_findLost 13 = .ok (.iaload, 1) := by decide +kernel
theorem dX1_findLost_14 : decode cX1_findLost 14 = .ok (.ifCond .gt 5, 3) := by decide +kernel
theorem dX1_findLost_17 : decode cX1_findLost 17 = .ok (.iconst 0, 1) := by decide +kernel
theorem dX1_findLost_18 : decode cX1_findLost 18 = .ok (.ireturn, 1) := by decide +kernel
theorem dX1_findLost_19 : decode cX1_findLost 19 = .ok (.aload_n 0, 1) := by decide +kernel
theorem dX1_findLost_20 : decode cX1_findLost 20 = .ok (.getfield 15, 3) := by decide +kernel
theorem dX1_findLost_23 : decode cX1_findLost 23 = .ok (.iload_n 1, 1) := by decide +kernel
theorem dX1_findLost_24 : decode cX1_findLost 24 = .ok (.dup2, 1) := by decide +kernel
theorem dX1_findLost_25 : decode cX1_findLost 25 = .ok (.iaload, 1) := by decide +kernel
theorem dX1_findLost_26 : decode cX1_findLost 26 = .ok (.iconst 1, 1) := by decide +kernel
theorem dX1_findLost_27 : decode cX1_findLost 27 = .ok (.isub, 1) := by decide +kernel
theorem dX1_findLost_28 : decode cX1_findLost 28 = .ok (.iastore, 1) := by decide +kernel
theorem dX1_findLost_29 : decode cX1_findLost 29 = .ok (.aload_n 0, 1) := by decide +kernel
theorem dX1_findLost_30 : decode cX1_findLost 30 = .ok (.getfield 9, 3) := by decide +kernel
theorem dX1_findLost_33 : decode cX1_findLost 33 = .ok (.iload_n 1, 1) := by decide +kernel
theorem dX1_findLost_34 : decode cX1_findLost 34 = .ok (.dup2, 1) := by decide +kernel
theorem dX1_findLost_35 : decode cX1_findLost 35 = .ok (.iaload, 1) := by decide +kernel
theorem dX1_findLost_36 : decode cX1_findLost 36 = .ok (.iconst 1, 1) := by decide +kernel
theorem dX1_findLost_37 : decode cX1_findLost 37 = .ok (.iadd, 1) := by decide +kernel
theorem dX1_findLost_38 : decode cX1_findLost 38 = .ok (.iastore, 1) := by decide +kernel
theorem dX1_findLost_39 : decode cX1_findLost 39 = .ok (.iconst 1, 1) := by decide +kernel
theorem dX1_findLost_40 : decode cX1_findLost 40 = .ok (.ireturn, 1) := by decide +kernel
theorem dX2_init_0 : decode cX2_init 0 = .ok (.aload_n 0, 1) := by decide +kernel
theorem dX2_init_1 : decode cX2_init 1 = .ok (.invokespecial 3, 3) := by decide +kernel
theorem dX2_init_4 : decode cX2_init 4 = .ok (.aload_n 0, 1) := by decide +kernel
theorem dX2_init_5 : decode cX2_init 5 = .ok (.iload_n 2, 1) := by decide +kernel
theorem dX2_init_6 : decode cX2_init 6 = .ok (.putfield 9, 3) := by decide +kernel
theorem dX2_init_9 : decode cX2_init 9 = .ok (.aload_n 0, 1) := by decide +kernel
theorem dX2_init_10 : decode cX2_init 10 = .ok (.iload_n 1, 1) := by decide +kernel
theorem dX2_init_11 : decode cX2_init 11 = .ok (.newarray .int, 2) := by decide +kernel
theorem dX2_init_13 : decode cX2_init 13 = .ok (.putfield 15, 3) := by decide +kernel
theorem dX2_init_16 : decode cX2_init 16 = .ok (.aload_n 0, 1) := by decide +kernel
theorem dX2_init_17 : decode cX2_init 17 = .ok (.iload_n 1, 1) := by decide +kernel
theorem dX2_init_18 : decode cX2_init 18 = .ok (.iload_n 2, 1) := by decide +kernel
theorem dX2_init_19 : decode cX2_init 19 = .ok (.imul, 1) := by decide +kernel
theorem dX2_init_20 : decode cX2_init 20 = .ok (.newarray .int, 2) := by decide +kernel
theorem dX2_init_22 : decode cX2_init 22 = .ok (.putfield 19, 3) := by decide +kernel
theorem dX2_init_25 : decode cX2_init 25 = .ok (.return_, 1) := by decide +kernel
theorem dX2_count_0 : decode cX2_count 0 = .ok (.iload_n 1, 1) := by decide +kernel
theorem dX2_count_1 : decode cX2_count 1 = .ok (.ifCond .lt 21, 3) := by decide +kernel
theorem dX2_count_4 : decode cX2_count 4 = .ok (.iload_n 1, 1) := by decide +kernel
theorem dX2_count_5 : decode cX2_count 5 = .ok (.aload_n 0, 1) := by decide +kernel
theorem dX2_count_6 : decode cX2_count 6 = .ok (.getfield 15, 3) := by decide +kernel
theorem dX2_count_9 : decode cX2_count 9 = .ok (.arraylength, 1) := by decide +kernel
theorem dX2_count_10 : decode cX2_count 10 = .ok (.if_icmp .ge 12, 3) := by decide +kernel
theorem dX2_count_13 : decode cX2_count 13 = .ok (.aload_n 0, 1) := by decide +kernel
theorem dX2_count_14 : decode cX2_count 14 = .ok (.getfield 15, 3) := by decide +kernel
theorem dX2_count_17 : decode cX2_count 17 = .ok (.iload_n 1, 1) := by decide +kernel
theorem dX2_count_18 : decode cX2_count 18 = .ok (.iaload, 1) := by decide +kernel
theorem dX2_count_19 : decode cX2_count 19 = .ok (.goto 4, 3) := by decide +kernel
theorem dX2_count_22 : decode cX2_count 22 = .ok (.iconst 0, 1) := by decide +kernel
theorem dX2_count_23 : decode cX2_count 23 = .ok (.ireturn, 1) := by decide +kernel
set_option maxRecDepth 20000 in
theorem ggX2_item_X2_count : GoodIn wsX2_item wsX2_count := goodIn_r _ [7, 8, 9, 10, 11] (by decide +kernel) (by decide +kernel)
set_option maxRecDepth 20000 in
theorem gX2_item_X2_count : GoodIn wsX2_item (wsV RX2 22 RX2 yX2_count wsX2_count) := goodIn_app (goodIn_of _ (by decide +kernel)) ggX2_item_X2_count
theorem dX2_item_0 : decode cX2_item 0 = .ok (.iload_n 2, 1) := by decide +kernel
theorem dX2_item_1 : decode cX2_item 1 = .ok (.ifCond .lt 28, 3) := by decide +kernel
theorem dX2_item_4 : decode cX2_item 4 = .ok (.iload_n 2, 1) := by decide +kernel
theorem dX2_item_5 : decode cX2_item 5 = .ok (.aload_n 0, 1) := by decide +kernel
theorem dX2_item_6 : decode cX2_item 6 = .ok (.iload_n 1, 1) := by decide +kernel
theorem dX2_item_7 : decode cX2_item 7 = .ok (.invokevirtual 22, 3) := by decide +kernel
theorem dX2_item_10 : decode cX2_item 10 = .ok (.if_icmp .ge 19, 3) := by decide +kernel
theorem dX2_item_13 : decode cX2_item 13 = .ok (.aload_n 0, 1) := by decide +kernel
theorem dX2_item_14 : decode cX2_item 14 = .ok (.getfield 19, 3) := by decide +kernel
theorem dX2_item_17 : decode cX2_item 17 = .ok (.iload_n 1, 1) := by decide +kernel
theorem dX2_item_18 : decode cX2_item 18 = .ok (.aload_n 0, 1) := by decide +kernel
theorem dX2_item_19 : decode cX2_item 19 = .ok (.getfield 9, 3) := by decide +kernel
theorem dX2_item_22 : decode cX2_item 22 = .ok (.imul, 1) := by decide +kernel
theorem dX2_item_23 : decode cX2_item 23 = .ok (.iload_n 2, 1) := by decide +kernel
theorem dX2_item_24 : decode cX2_item 24 = .ok (.iadd, 1) := by decide +kernel
theorem dX2_item_25 : decode cX2_item 25 = .ok (.iaload, 1) := by decide +kernel
theorem dX2_item_26 : decode cX2_item 26 = .ok (.goto 4, 3) := by decide +kernel
theorem dX2_item_29 : decode cX2_item 29 = .ok (.iconst (-1), 1) := by decide +kernel
theorem dX2_item_30 : decode cX2_item 30 = .ok (.ireturn, 1) := by decide +kernel
theorem dX2_add_0 : decode cX2_add 0 = .ok (.iload_n 1, 1) := by decide +kernel
theorem dX2_add_1 : decode cX2_add 1 = .ok (.ifCond .lt 25, 3) := by decide +kernel
theorem dX2_add_4 : decode cX2_add 4 = .ok (.iload_n 1, 1) := by decide +kernel
theorem dX2_add_5 : decode cX2_add 5 = .ok (.aload_n 0, 1) := by decide +kernel
theorem dX2_add_6 : decode cX2_add 6 = .ok (.getfield 15, 3) := by decide +kernel
theorem dX2_add_9 : decode cX2_add 9 = .ok (.arraylength, 1) := by decide +kernel
theorem dX2_add_10 : decode cX2_add 10 = .ok (.if_icmp .ge 16, 3) := by decide +kernel
theorem dX2_add_13 : decode cX2_add 13 = .ok (.aload_n 0, 1) := by decide +kernel
theorem dX2_add_14 : decode cX2_add 14 = .ok (.getfield 15, 3) := by decide +kernel
theorem dX2_add_17 : decode cX2_add 17 = .ok (.iload_n 1, 1) := by decide +kernel
theorem dX2_add_18 : decode cX2_add 18 = .ok (.iaload, 1) := by decide +kernel
theorem dX2_add_19 : decode cX2_add 19 = .ok (.aload_n 0, 1) := by decide +kernel
theorem dX2_add_20 : decode cX2_add 20 = .ok (.getfield 9, 3) := by decide +kernel
theorem dX2_add_23 : decode cX2_add 23 = .ok (.if_icmp .lt 6, 3) := by decide +kernel
theorem dX2_add_26 : decode cX2_add 26 = .ok (.bipush (-4), 2) := by decide +kernel
theorem dX2_add_28 : decode cX2_add 28 = .ok (.ireturn, 1) := by decide +kernel
theorem dX2_add_29 : decode cX2_add 29 = .ok (.aload_n 0, 1) := by decide +kernel
theorem dX2_add_30 : decode cX2_add 30 = .ok (.getfield 19, 3) := by decide +kernel
theorem dX2_add_33 : decode cX2_add 33 = .ok (.iload_n 1, 1) := by decide +kernel
theorem dX2_add_34 : decode cX2_add 34 = .ok (.aload_n 0, 1) := by decide +kernel
theorem dX2_add_35 : decode cX2_add 35 = .ok (.getfield 9, 3) := by decide +kernel
theorem dX2_add_38 : decode cX2_add 38 = .ok (.imul, 1) := by decide +kernel
theorem dX2_add_39 : decode cX2_add 39 = .ok (.aload_n 0, 1) := by decide +kernel
theorem dX2_add_40 : decode cX2_add 40 = .ok (.getfield 15, 3) := by decide +kernel
theorem dX2_add_43 : decode cX2_add 43 = .ok (.iload_n 1, 1) := by decide +kernel
theorem dX2_add_44 : decode cX2_add 44 = .ok (.iaload, 1) := by decide +kernel
theorem dX2_add_45 : decode cX2_add 45 = .ok (.iadd, 1) := by decide +kernel
theorem dX2_add_46 : decode cX2_add 46 = .ok (.iload_n 2, 1) := by decide +kernel
theorem dX2_add_47 : decode cX2_add 47 = .ok (.iastore, 1) := by decide +kernel
theorem dX2_add_48 : decode cX2_add 48 = .ok (.aload_n 0, 1) := by decide +kernel
theorem dX2_add_49 : decode cX2_add 49 = .ok (.getfield 15, 3) := by decide +kernel
theorem dX2_add_52 : decode cX2_add 52 = .ok (.iload_n 1, 1) := by decide +kernel
theorem dX2_add_53 : decode cX2_add 53 = .ok (.dup2, 1) := by decide +kernel
theorem dX2_add_54 : decode cX2_add 54 = .ok (.iaload, 1) := by decide +kernel
theorem dX2_add_55 : decode cX2_add 55 = .ok (.iconst 1, 1) := by decide +kernel
theorem dX2_add_56 : decode cX2_add 56 = .ok (.iadd, 1) := by decide +kernel
theorem dX2_add_57 : decode cX2_add 57 = .ok (.iastore, 1) := by decide +kernel
theorem dX2_add_58 : decode cX2_add 58 = .ok (.aload_n 0, 1) := by decide +kernel
theorem dX2_add_59 : decode cX2_add 59 = .ok (.getfield 15, 3) := by decide +kernel
theorem dX2_add_62 : decode cX2_add 62 = .ok (.iload_n 1, 1) := by decide +kernel
theorem dX2_add_63 : decode cX2_add 63 = .ok (.iaload, 1) := by decide +kernel
theorem dX2_add_64 : decode cX2_add 64 = .ok (.ireturn, 1) := by decide +kernel
set_option maxRecDepth 20000 in
theorem ggX2_placeOf_X2_count : GoodIn wsX2_placeOf wsX2_count := goodIn_r _ [7, 8, 9, 10, 11] (by decide +kernel) (by decide +kernel)
set_option maxRecDepth 20000 in
theorem gX2_placeOf_X2_count : GoodIn wsX2_placeOf (wsV RX2 22 RX2 yX2_count wsX2_count) := goodIn_app (goodIn_of _ (by decide +kernel)) ggX2_placeOf_X2_count
theorem dX2_placeOf_0 : decode cX2_placeOf 0 = .ok (.aload_n 0, 1) := by decide +kernel
theorem dX2_placeOf_1 : decode cX2_placeOf 1 = .ok (.iload_n 1, 1) := by decide +kernel
theorem dX2_placeOf_2 : decode cX2_placeOf 2 = .ok (.invokevirtual 22, 3) := by decide +kernel
theorem dX2_placeOf_5 : decode cX2_placeOf 5 = .ok (.istore_n 3, 1) := by decide +kernel
theorem dX2_placeOf_6 : decode cX2_placeOf 6 = .ok (.iconst 0, 1) := by decide +kernel
theorem dX2_placeOf_7 : decode cX2_placeOf 7 = .ok (.istore 4, 2) := by decide +kernel
theorem dX2_placeOf_9 : decode cX2_placeOf 9 = .ok (.iload 4, 2) := by decide +kernel
theorem dX2_placeOf_11 : decode cX2_placeOf 11 = .ok (.iload_n 3, 1) := by decide +kernel
theorem dX2_placeOf_12 : decode cX2_placeOf 12 = .ok (.if_icmp .ge 30, 3) := by decide +kernel
theorem dX2_placeOf_15 : decode cX2_placeOf 15 = .ok (.aload_n 0, 1) := by decide +kernel
theorem dX2_placeOf_16 : decode cX2_placeOf 16 = .ok (.getfield 19, 3) := by decide +kernel
theorem dX2_placeOf_19 : decode cX2_placeOf 19 = .ok (.iload_n 1, 1) := by decide +kernel
theorem dX2_placeOf_20 : decode cX2_placeOf 20 = .ok (.aload_n 0, 1) := by decide +kernel
theorem dX2_placeOf_21 : decode cX2_placeOf 21 = .ok (.getfield 9, 3) := by decide +kernel
theorem dX2_placeOf_24 : decode cX2_placeOf 24 = .ok (.imul, 1) := by decide +kernel
theorem dX2_placeOf_25 : decode cX2_placeOf 25 = .ok (.iload 4, 2) := by decide +kernel
theorem dX2_placeOf_27 : decode cX2_placeOf 27 = .ok (.iadd, 1) := by decide +kernel
theorem dX2_placeOf_28 : decode cX2_placeOf 28 = .ok (.iaload, 1) := by decide +kernel
theorem dX2_placeOf_29 : decode cX2_placeOf 29 = .ok (.iload_n 2, 1) := by decide +kernel
theorem dX2_placeOf_30 : decode cX2_placeOf 30 = .ok (.if_icmp .ne 6, 3) := by decide +kernel
theorem dX2_placeOf_33 : decode cX2_placeOf 33 = .ok (.iload 4, 2) := by decide +kernel
theorem dX2_placeOf_35 : decode cX2_placeOf 35 = .ok (.ireturn, 1) := by decide +kernel
theorem dX2_placeOf_36 : decode cX2_placeOf 36 = .ok (.iinc 4 1, 3) := by decide +kernel
theorem dX2_placeOf_39 : decode cX2_placeOf 39 = .ok (.goto (-30), 3) := by decide +kernel
theorem dX2_placeOf_42 : decode cX2_placeOf 42 = .ok (.iconst (-1), 1) := by decide +kernel
theorem dX2_placeOf_43 : decode cX2_placeOf 43 = .ok (.ireturn, 1) := by decide +kernel
set_option maxRecDepth 20000 in
theorem ggX2_remove_X2_placeOf : GoodIn wsX2_remove wsX2_placeOf := goodIn_r _ [8, 2, 3, 9, 10, 11, 7, 12, 1, 13, 14, 15] (by decide +kernel) (by decide +kernel)
set_option maxRecDepth 20000 in
theorem gX2_remove_X2_placeOf : GoodIn wsX2_remove (wsV RX2 26 RX2 yX2_placeOf wsX2_placeOf) := goodIn_app (goodIn_of _ (by decide +kernel)) ggX2_remove_X2_placeOf
theorem dX2_remove_0 : decode cX2_remove 0 = .ok (.aload_n 0, 1) := by decide +kernel
theorem dX2_remove_1 : decode cX2_remove 1 = .ok (.iload_n 1, 1) := by decide +kernel
theorem dX2_remove_2 : decode cX2_remove 2 = .ok (.iload_n 2, 1) := by decide +kernel
theorem dX2_remove_3 : decode cX2_remove 3 = .ok (.invokevirtual 26, 3) := by decide +kernel
theorem dX2_remove_6 : decode cX2_remove 6 = .ok (.istore_n 3, 1) := by decide +kernel
theorem dX2_remove_7 : decode cX2_remove 7 = .ok (.iload_n 3, 1) := by decide +kernel
theorem dX2_remove_8 : decode cX2_remove 8 = .ok (.iconst (-1), 1) := by decide +kernel
theorem dX2_remove_9 : decode cX2_remove 9 = .ok (.if_icmp .ne 4, 3) := by decide +kernel
theorem dX2_remove_12 : decode cX2_remove 12 = .ok (.return_, 1) := by decide +kernel
theorem dX2_remove_13 : decode cX2_remove 13 = .ok (.aload_n 0, 1) := by decide +kernel
theorem dX2_remove_14 : decode cX2_remove 14 = .ok (.getfield 15, 3) := by decide +kernel
theorem dX2_remove_17 : decode cX2_remove 17 = .ok (.iload_n 1, 1) := by decide +kernel
theorem dX2_remove_18 : decode cX2_remove 18 = .ok (.dup2, 1) := by decide +kernel
theorem dX2_remove_19 : decode cX2_remove 19 = .ok (.iaload, 1) := by decide +kernel
theorem dX2_remove_20 : decode cX2_remove 20 = .ok (.iconst 1, 1) := by decide +kernel
theorem dX2_remove_21 : decode cX2_remove 21 = .ok (.isub, 1) := by decide +kernel
theorem dX2_remove_22 : decode cX2_remove 22 = .ok (.iastore, 1) := by decide +kernel
theorem dX2_remove_23 : decode cX2_remove 23 = .ok (.iload_n 3, 1) := by decide +kernel
theorem dX2_remove_24 : decode cX2_remove 24 = .ok (.istore 4, 2) := by decide +kernel
theorem dX2_remove_26 : decode cX2_remove 26 = .ok (.iload 4, 2) := by decide +kernel
theorem dX2_remove_28 : decode cX2_remove 28 = .ok (.aload_n 0, 1) := by decide +kernel
theorem dX2_remove_29 : decode cX2_remove 29 = .ok (.getfield 15, 3) := by decide +kernel
theorem dX2_remove_32 : decode cX2_remove 32 = .ok (.iload_n 1, 1) := by decide +kernel
theorem dX2_remove_33 : decode cX2_remove 33 = .ok (.iaload, 1) := by decide +kernel
theorem dX2_remove_34 : decode cX2_remove 34 = .ok (.if_icmp .ge 39, 3) := by decide +kernel
theorem dX2_remove_37 : decode cX2_remove 37 = .ok (.aload_n 0, 1) := by decide +kernel
theorem dX2_remove_38 : decode cX2_remove 38 = .ok (.getfield 19, 3) := by decide +kernel
theorem dX2_remove_41 : decode cX2_remove 41 = .ok (.iload_n 1, 1) := by decide +kernel
theorem dX2_remove_42 : decode cX2_remove 42 = .ok (.aload_n 0, 1) := by decide +kernel
theorem dX2_remove_43 : decode cX2_remove 43 = .ok (.getfield 9, 3) := by decide +kernel
theorem dX2_remove_46 : decode cX2_remove 46 = .ok (.imul, 1) := by decide +kernel
theorem dX2_remove_47 : decode cX2_remove 47 = .ok (.iload 4, 2) := by decide +kernel
theorem dX2_remove_49 : decode cX2_remove 49 = .ok (.iadd, 1) := by decide +kernel
theorem dX2_remove_50 : decode cX2_remove 50 = .ok (.aload_n 0, 1) := by decide +kernel
theorem dX2_remove_51 : decode cX2_remove 51 = .ok (.getfield 19, 3) := by decide +kernel
theorem dX2_remove_54 : decode cX2_remove 54 = .ok (.iload_n 1, 1) := by decide +kernel
theorem dX2_remove_55 : decode cX2_remove 55 = .ok (.aload_n 0, 1) := by decide +kernel
theorem dX2_remove_56 : decode cX2_remove 56 = .ok (.getfield 9, 3) := by decide +kernel
theorem dX2_remove_59 : decode cX2_remove 59 = .ok (.imul, 1) := by decide +kernel
theorem dX2_remove_60 : decode cX2_remove 60 = .ok (.iload 4, 2) := by decide +kernel
theorem dX2_remove_62 : decode cX2_remove 62 = .ok (.iadd, 1) := by decide +kernel
theorem dX2_remove_63 : decode cX2_remove 63 = .ok (.iconst 1, 1) := by decide +kernel
theorem dX2_remove_64 : decode cX2_remove 64 = .ok (.iadd, 1) := by decide +kernel
theorem dX2_remove_65 : decode cX2_remove 65 = .ok (.iaload, 1) := by decide +kernel
theorem dX2_remove_66 : decode cX2_remove 66 = .ok (.iastore, 1) := by decide +kernel
theorem dX2_remove_67 : decode cX2_remove 67 = .ok (.iinc 4 1, 3) := by decide +kernel
theorem dX2_remove_70 : decode cX2_remove 70 = .ok (.goto (-44), 3) := by decide +kernel
theorem dX2_remove_73 : decode cX2_remove 73 = .ok (.return_, 1) := by decide +kernel
set_option maxRecDepth 20000 in
theorem ggX3_init_X2_init : GoodIn wsX3_init wsX2_init := goodIn_r _ [14, 15, 2, 3, 16, 4, 17, 18, 27, 28, 29] (by decide +kernel) (by decide +kernel)
set_option maxRecDepth 20000 in
theorem gX3_init_X2_init : GoodIn wsX3_init (wsX2_init) := ggX3_init_X2_init
set_option maxRecDepth 20000 in
theorem ggX3_init_J7_fill_53178 : GoodIn wsX3_init wsJ7_fill_53178 := goodIn_r _ [22] (by decide +kernel) (by decide +kernel)
set_option maxRecDepth 20000 in
theorem gX3_init_J7_fill_53178 : GoodIn wsX3_init (va_wsS RX3 30 yJ7_fill_53178 wsJ7_fill_53178) := goodIn_app (goodIn_of _ (by decide +kernel)) ggX3_init_J7_fill_53178
theorem dX3_init_0 : decode cX3_init 0 = .ok (.aload_n 0, 1) := by decide +kernel
theorem dX3_init_1 : decode cX3_init 1 = .ok (.invokespecial 3, 3) := by decide +kernel
theorem dX3_init_4 : decode cX3_init 4 = .ok (.aload_n 0, 1) := by decide +kernel
theorem dX3_init_5 : decode cX3_init 5 = .ok (.bipush 10, 2) := by decide +kernel
theorem dX3_init_7 : decode cX3_init 7 = .ok (.newarray .int, 2) := by decide +kernel
theorem dX3_init_9 : decode cX3_init 9 = .ok (.putfield 9, 3) := by decide +kernel
theorem dX3_init_12 : decode cX3_init 12 = .ok (.aload_n 0, 1) := by decide +kernel
theorem dX3_init_13 : decode cX3_init 13 = .ok (.bipush 10, 2) := by decide +kernel
theorem dX3_init_15 : decode cX3_init 15 = .ok (.newarray .int, 2) := by decide +kernel
theorem dX3_init_17 : decode cX3_init 17 = .ok (.putfield 15, 3) := by decide +kernel
theorem dX3_init_20 : decode cX3_init 20 = .ok (.aload_n 0, 1) := by decide +kernel
theorem dX3_init_21 : decode cX3_init 21 = .ok (.bipush 10, 2) := by decide +kernel
theorem dX3_init_23 : decode cX3_init 23 = .ok (.newarray .int, 2) := by decide +kernel
theorem dX3_init_25 : decode cX3_init 25 = .ok (.putfield 18, 3) := by decide +kernel
theorem dX3_init_28 : decode cX3_init 28 = .ok (.aload_n 0, 1) := by decide +kernel
theorem dX3_init_29 : decode cX3_init 29 = .ok (.new 21, 3) := by decide +kernel
theorem dX3_init_32 : decode cX3_init 32 = .ok (.dup, 1) := by decide +kernel
theorem dX3_init_33 : decode cX3_init 33 = .ok (.bipush 10, 2) := by decide +kernel
theorem dX3_init_35 : decode cX3_init 35 = .ok (.bipush 12, 2) := by decide +kernel
theorem dX3_init_37 : decode cX3_init 37 = .ok (.invokespecial 23, 3) := by decide +kernel
theorem dX3_init_40 : decode cX3_init 40 = .ok (.putfield 26, 3) := by decide +kernel
theorem dX3_init_43 : decode cX3_init 43 = .ok (.aload_n 0, 1) := by decide +kernel
theorem dX3_init_44 : decode cX3_init 44 = .ok (.getfield 18, 3) := by decide +kernel
theorem dX3_init_47 : decode cX3_init 47 = .ok (.iconst (-1), 1) := by decide +kernel
theorem dX3_init_48 : decode cX3_init 48 = .ok (.invokestatic 30, 3) := by decide +kernel
theorem dX3_init_51 : decode cX3_init 51 = .ok (.return_, 1) := by decide +kernel
set_option maxRecDepth 20000 in
theorem ggX3_isFreeFor_X2_item : GoodIn wsX3_isFreeFor wsX2_item := goodIn_r _ [7, 8, 9, 10, 11, 12, 6, 13, 14, 19, 20, 21] (by decide +kernel) (by decide +kernel)
set_option maxRecDepth 20000 in
theorem gX3_isFreeFor_X2_item : GoodIn wsX3_isFreeFor (wsV RX3 36 RX2 yX2_item wsX2_item) := goodIn_app (goodIn_of _ (by decide +kernel)) ggX3_isFreeFor_X2_item
theorem dX3_isFreeFor_0 : decode cX3_isFreeFor 0 = .ok (.aload_n 0, 1) := by decide +kernel
theorem dX3_isFreeFor_1 : decode cX3_isFreeFor 1 = .ok (.getfield 26, 3) := by decide +kernel
theorem dX3_isFreeFor_4 : decode cX3_isFreeFor 4 = .ok (.iload_n 1, 1) := by decide +kernel
theorem dX3_isFreeFor_5 : decode cX3_isFreeFor 5 = .ok (.iconst 0, 1) := by decide +kernel
theorem dX3_isFreeFor_6 : decode cX3_isFreeFor 6 = .ok (.invokevirtual 36, 3) := by decide +kernel
theorem dX3_isFreeFor_9 : decode cX3_isFreeFor 9 = .ok (.istore_n 3, 1) := by decide +kernel
theorem dX3_isFreeFor_10 : decode cX3_isFreeFor 10 = .ok (.aload_n 0, 1) := by decide +kernel
theorem dX3_isFreeFor_11 : decode cX3_isFreeFor 11 = .ok (.getfield 18, 3) := by decide +kernel
theorem dX3_isFreeFor_14 : decode cX3_isFreeFor 14 = .ok (.iload_n 1, 1) := by decide +kernel
theorem dX3_isFreeFor_15 : decode cX3_isFreeFor 15 = .ok (.iaload, 1) := by decide +kernel
theorem dX3_isFreeFor_16 : decode cX3_isFreeFor 16 = .ok (.iconst (-1), 1) := by decide +kernel
theorem dX3_isFreeFor_17 : decode cX3_isFreeFor 17 = .ok (.if_icmp .ne 17, 3) := by decide +kernel
theorem dX3_isFreeFor_20 : decode cX3_isFreeFor 20 = .ok (.iload_n 3, 1) := by decide +kernel
theorem dX3_isFreeFor_21 : decode cX3_isFreeFor 21 = .ok (.iconst (-1), 1) := by decide +kernel
theorem dX3_isFreeFor_22 : decode cX3_isFreeFor 22 = .ok (.if_icmp .eq 8, 3) := by decide +kernel
theorem dX3_isFreeFor_25 : decode cX3_isFreeFor 25 = .ok (.iload_n 3, 1) := by decide +kernel
theorem dX3_isFreeFor_26 : decode cX3_isFreeFor 26 = .ok (.iload_n 2, 1) := by decide +kernel
theorem dX3_isFreeFor_27 : decode cX3_isFreeFor 27 = .ok (.if_icmp .ne 7, 3) := by decide +kernel
theorem dX3_isFreeFor_30 : decode cX3_isFreeFor 30 = .ok (.iconst 1, 1) := by decide +kernel
theorem dX3_isFreeFor_31 : decode cX3_isFreeFor 31 = .ok (.goto 4, 3) := by decide +kernel
theorem dX3_isFreeFor_34 : decode cX3_isFreeFor 34 = .ok (.iconst 0, 1) := by decide +kernel
theorem dX3_isFreeFor_35 : decode cX3_isFreeFor 35 = .ok (.ireturn, 1) := by decide +kernel
set_option maxRecDepth 20000 in
theorem ggX3_take_X2_remove : GoodIn wsX3_take wsX2_remove := goodIn_r _ [9, 10, 11, 12, 13, 14, 15, 8, 16, 17, 18, 19, 20, 25, 26, 27] (by decide +kernel) (by decide +kernel)
set_option maxRecDepth 20000 in
theorem gX3_take_X2_remove : GoodIn wsX3_take (wsV RX3 40 RX2 yX2_remove wsX2_remove) := goodIn_app (goodIn_of _ (by decide +kernel)) ggX3_take_X2_remove
theorem dX3_take_0 : decode cX3_take 0 = .ok (.aload_n 0, 1) := by decide +kernel
theorem dX3_take_1 : decode cX3_take 1 = .ok (.getfield 26, 3) := by decide +kernel
theorem dX3_take_4 : decode cX3_take 4 = .ok (.iload_n 1, 1) := by decide +kernel
theorem dX3_take_5 : decode cX3_take 5 = .ok (.iload_n 2, 1) := by decide +kernel
theorem dX3_take_6 : decode cX3_take 6 = .ok (.invokevirtual 40, 3) := by decide +kernel
theorem dX3_take_9 : decode cX3_take 9 = .ok (.aload_n 0, 1) := by decide +kernel
theorem dX3_take_10 : decode cX3_take 10 = .ok (.getfield 18, 3) := by decide +kernel
theorem dX3_take_13 : decode cX3_take 13 = .ok (.iload_n 1, 1) := by decide +kernel
theorem dX3_take_14 : decode cX3_take 14 = .ok (.iload_n 2, 1) := by decide +kernel
theorem dX3_take_15 : decode cX3_take 15 = .ok (.iastore, 1) := by decide +kernel
theorem dX3_take_16 : decode cX3_take 16 = .ok (.aload_n 0, 1) := by decide +kernel
theorem dX3_take_17 : decode cX3_take 17 = .ok (.getfield 15, 3) := by decide +kernel
theorem dX3_take_20 : decode cX3_take 20 = .ok (.iload_n 1, 1) := by decide +kernel
theorem dX3_take_21 : decode cX3_take 21 = .ok (.aload_n 0, 1) := by decide +kernel
theorem dX3_take_22 : decode cX3_take 22 = .ok (.getfield 9, 3) := by decide +kernel
theorem dX3_take_25 : decode cX3_take 25 = .ok (.iload_n 1, 1) := by decide +kernel
theorem dX3_take_26 : decode cX3_take 26 = .ok (.iaload, 1) := by decide +kernel
theorem dX3_take_27 : decode cX3_take 27 = .ok (.iastore, 1) := by decide +kernel
theorem dX3_take_28 : decode cX3_take 28 = .ok (.return_, 1) := by decide +kernel
set_option maxRecDepth 20000 in
theorem ggX3_standInLine_X2_placeOf : GoodIn wsX3_standInLine wsX2_placeOf := goodIn_r _ [6, 7, 8, 9, 10, 11, 5, 12, 13, 22, 23, 24] (by decide +kernel) (by decide +kernel)
set_option maxRecDepth 20000 in
theorem gX3_standInLine_X2_placeOf : GoodIn wsX3_standInLine (wsV RX3 43 RX2 yX2_placeOf wsX2_placeOf) := goodIn_app (goodIn_of _ (by decide +kernel)) ggX3_standInLine_X2_placeOf
set_option maxRecDepth 20000 in
theorem ggX3_standInLine_X2_add : GoodIn wsX3_standInLine wsX2_add := goodIn_r _ [17, 13, 8, 7, 22, 23, 24] (by decide +kernel) (by decide +kernel)
set_option maxRecDepth 20000 in
theorem gX3_standInLine_X2_add : GoodIn wsX3_standInLine (wsV RX3 46 RX2 yX2_add wsX2_add) := goodIn_app (goodIn_of _ (by decide +kernel)) ggX3_standInLine_X2_add
theorem dX3_standInLine_0 : decode cX3_standInLine 0 = .ok (.aload_n 0, 1) := by decide +kernel
theorem dX3_standInLine_1 : decode cX3_standInLine 1 = .ok (.getfield 26, 3) := by decide +kernel
theorem dX3_standInLine_4 : decode cX3_standInLine 4 = .ok (.iload_n 1, 1) := by decide +kernel
theorem dX3_standInLine_5 : decode cX3_standInLine 5 = .ok (.iload_n 2, 1) := by decide +kernel
theorem dX3_standInLine_6 : decode cX3_standInLine 6 = .ok (.invokevirtual 43, 3) := by decide +kernel
theorem dX3_standInLine_9 : decode cX3_standInLine 9 = .ok (.iconst (-1), 1) := by decide +kernel
theorem dX3_standInLine_10 : decode cX3_standInLine 10 = .ok (.if_icmp .ne 13, 3) := by decide +kernel
theorem dX3_standInLine_13 : decode cX3_standInLine 13 = .ok (.aload_n 0, 1) := by decide +kernel
theorem dX3_standInLine_14 : decode cX3_standInLine 14 = .ok (.getfield 26, 3) := by decide +kernel
theorem dX3_standInLine_17 : decode cX3_standInLine 17 = .ok (.iload_n 1, 1) := by decide +kernel
theorem dX3_standInLine_18 : decode cX3_standInLine 18 = .ok (.iload_n 2, 1) := by decide +kernel
theorem dX3_standInLine_19 : decode cX3_standInLine 19 = .ok (.invokevirtual 46, 3) := by decide +kernel
theorem dX3_standInLine_22 : decode cX3_standInLine 22 = .ok (.pop, 1) := by decide +kernel
theorem dX3_standInLine_23 : decode cX3_standInLine 23 = .ok (.return_, 1) := by decide +kernel
theorem dX3_change_0 : decode cX3_change 0 = .ok (.iconst 0, 1) := by decide +kernel
theorem dX3_change_1 : decode cX3_change 1 = .ok (.istore_n 3, 1) := by decide +kernel
theorem dX3_change_2 : decode cX3_change 2 = .ok (.iload_n 3, 1) := by decide +kernel
theorem dX3_change_3 : decode cX3_change 3 = .ok (.bipush 10, 2) := by decide +kernel
theorem dX3_change_5 : decode cX3_change 5 = .ok (.if_icmp .ge 40, 3) := by decide +kernel
theorem dX3_change_8 : decode cX3_change 8 = .ok (.aload_n 0, 1) := by decide +kernel
theorem dX3_change_9 : decode cX3_change 9 = .ok (.getfield 18, 3) := by decide +kernel
theorem dX3_change_12 : decode cX3_change 12 = .ok (.iload_n 3, 1) := by decide +kernel
theorem dX3_change_13 : decode cX3_change 13 = .ok (.iaload, 1) := by decide +kernel
theorem dX3_change_14 : decode cX3_change 14 = .ok (.iload_n 1, 1) := by decide +kernel
theorem dX3_change_15 : decode cX3_change 15 = .ok (.if_icmp .ne 24, 3) := by decide +kernel
theorem dX3_change_18 : decode cX3_change 18 = .ok (.aload_n 0, 1) := by decide +kernel
theorem dX3_change_19 : decode cX3_change 19 = .ok (.getfield 9, 3) := by decide +kernel
theorem dX3_change_22 : decode cX3_change 22 = .ok (.iload_n 3, 1) := by decide +kernel
theorem dX3_change_23 : decode cX3_change 23 = .ok (.aload_n 0, 1) := by decide +kernel
theorem dX3_change_24 : decode cX3_change 24 = .ok (.getfield 9, 3) := by decide +kernel
theorem dX3_change_27 : decode cX3_change 27 = .ok (.iload_n 3, 1) := by decide +kernel
theorem dX3_change_28 : decode cX3_change 28 = .ok (.iaload, 1) := by decide +kernel
theorem dX3_change_29 : decode cX3_change 29 = .ok (.iconst 3, 1) := by decide +kernel
theorem dX3_change_30 : decode cX3_change 30 = .ok (.imul, 1) := by decide +kernel
theorem dX3_change_31 : decode cX3_change 31 = .ok (.iload_n 1, 1) := by decide +kernel
theorem dX3_change_32 : decode cX3_change 32 = .ok (.iadd, 1) := by decide +kernel
theorem dX3_change_33 : decode cX3_change 33 = .ok (.bipush 10, 2) := by decide +kernel
theorem dX3_change_35 : decode cX3_change 35 = .ok (.iload_n 2, 1) := by decide +kernel
theorem dX3_change_36 : decode cX3_change 36 = .ok (.imul, 1) := by decide +kernel
theorem dX3_change_37 : decode cX3_change 37 = .ok (.iadd, 1) := by decide +kernel
theorem dX3_change_38 : decode cX3_change 38 = .ok (.iastore, 1) := by decide +kernel
theorem dX3_change_39 : decode cX3_change 39 = .ok (.iinc 3 1, 3) := by decide +kernel
end
section
theorem dX3_change_42 : decode cX3_change 42 = .ok (.goto (-40), 3) := by decide +kernel
theorem dX3_change_45 : decode cX3_change 45 = .ok (.return_, 1) := by decide +kernel
theorem dX3_restore_0 : decode cX3_restore 0 = .ok (.iconst 0, 1) := by decide +kernel
theorem dX3_restore_1 : decode cX3_restore 1 = .ok (.istore_n 2, 1) := by decide +kernel
theorem dX3_restore_2 : decode cX3_restore 2 = .ok (.iload_n 2, 1) := by decide +kernel
theorem dX3_restore_3 : decode cX3_restore 3 = .ok (.bipush 10, 2) := by decide +kernel
theorem dX3_restore_5 : decode cX3_restore 5 = .ok (.if_icmp .ge 31, 3) := by decide +kernel
theorem dX3_restore_8 : decode cX3_restore 8 = .ok (.aload_n 0, 1) := by decide +kernel
theorem dX3_restore_9 : decode cX3_restore 9 = .ok (.getfield 18, 3) := by decide +kernel
theorem dX3_restore_12 : decode cX3_restore 12 = .ok (.iload_n 2, 1) := by decide +kernel
theorem dX3_restore_13 : decode cX3_restore 13 = .ok (.iaload, 1) := by decide +kernel
theorem dX3_restore_14 : decode cX3_restore 14 = .ok (.iload_n 1, 1) := by decide +kernel
theorem dX3_restore_15 : decode cX3_restore 15 = .ok (.if_icmp .ne 15, 3) := by decide +kernel
theorem dX3_restore_18 : decode cX3_restore 18 = .ok (.aload_n 0, 1) := by decide +kernel
theorem dX3_restore_19 : decode cX3_restore 19 = .ok (.getfield 9, 3) := by decide +kernel
theorem dX3_restore_22 : decode cX3_restore 22 = .ok (.iload_n 2, 1) := by decide +kernel
theorem dX3_restore_23 : decode cX3_restore 23 = .ok (.aload_n 0, 1) := by decide +kernel
theorem dX3_restore_24 : decode cX3_restore 24 = .ok (.getfield 15, 3) := by decide +kernel
theorem dX3_restore_27 : decode cX3_restore 27 = .ok (.iload_n 2, 1) := by decide +kernel
theorem dX3_restore_28 : decode cX3_restore 28 = .ok (.iaload, 1) := by decide +kernel
theorem dX3_restore_29 : decode cX3_restore 29 = .ok (.iastore, 1) := by decide +kernel
theorem dX3_restore_30 : decode cX3_restore 30 = .ok (.iinc 2 1, 3) := by decide +kernel
theorem dX3_restore_33 : decode cX3_restore 33 = .ok (.goto (-31), 3) := by decide +kernel
theorem dX3_restore_36 : decode cX3_restore 36 = .ok (.return_, 1) := by decide +kernel
set_option maxRecDepth 20000 in
theorem ggX3_release_X2_remove : GoodIn wsX3_release wsX2_remove := goodIn_r _ [7, 8, 9, 10, 11, 12, 13, 6, 14, 15, 16, 17, 18, 23, 24, 25] (by decide +kernel) (by decide +kernel)
set_option maxRecDepth 20000 in
theorem gX3_release_X2_remove : GoodIn wsX3_release (wsV RX3 40 RX2 yX2_remove wsX2_remove) := goodIn_app (goodIn_of _ (by decide +kernel)) ggX3_release_X2_remove
theorem dX3_release_0 : decode cX3_release 0 = .ok (.iconst 0, 1) := by decide +kernel
theorem dX3_release_1 : decode cX3_release 1 = .ok (.istore_n 2, 1) := by decide +kernel
theorem dX3_release_2 : decode cX3_release 2 = .ok (.iload_n 2, 1) := by decide +kernel
theorem dX3_release_3 : decode cX3_release 3 = .ok (.bipush 10, 2) := by decide +kernel
theorem dX3_release_5 : decode cX3_release 5 = .ok (.if_icmp .ge 35, 3) := by decide +kernel
theorem dX3_release_8 : decode cX3_release 8 = .ok (.aload_n 0, 1) := by decide +kernel
theorem dX3_release_9 : decode cX3_release 9 = .ok (.getfield 26, 3) := by decide +kernel
theorem dX3_release_12 : decode cX3_release 12 = .ok (.iload_n 2, 1) := by decide +kernel
theorem dX3_release_13 : decode cX3_release 13 = .ok (.iload_n 1, 1) := by decide +kernel
theorem dX3_release_14 : decode cX3_release 14 = .ok (.invokevirtual 40, 3) := by decide +kernel
theorem dX3_release_17 : decode cX3_release 17 = .ok (.aload_n 0, 1) := by decide +kernel
theorem dX3_release_18 : decode cX3_release 18 = .ok (.getfield 18, 3) := by decide +kernel
theorem dX3_release_21 : decode cX3_release 21 = .ok (.iload_n 2, 1) := by decide +kernel
theorem dX3_release_22 : decode cX3_release 22 = .ok (.iaload, 1) := by decide +kernel
theorem dX3_release_23 : decode cX3_release 23 = .ok (.iload_n 1, 1) := by decide +kernel
theorem dX3_release_24 : decode cX3_release 24 = .ok (.if_icmp .ne 10, 3) := by decide +kernel
theorem dX3_release_27 : decode cX3_release 27 = .ok (.aload_n 0, 1) := by decide +kernel
theorem dX3_release_28 : decode cX3_release 28 = .ok (.getfield 18, 3) := by decide +kernel
theorem dX3_release_31 : decode cX3_release 31 = .ok (.iload_n 2, 1) := by decide +kernel
theorem dX3_release_32 : decode cX3_release 32 = .ok (.iconst (-1), 1) := by decide +kernel
theorem dX3_release_33 : decode cX3_release 33 = .ok (.iastore, 1) := by decide +kernel
theorem dX3_release_34 : decode cX3_release 34 = .ok (.iinc 2 1, 3) := by decide +kernel
theorem dX3_release_37 : decode cX3_release 37 = .ok (.goto (-35), 3) := by decide +kernel
theorem dX3_release_40 : decode cX3_release 40 = .ok (.return_, 1) := by decide +kernel
theorem dX3_countOf_0 : decode cX3_countOf 0 = .ok (.iconst 0, 1) := by decide +kernel
theorem dX3_countOf_1 : decode cX3_countOf 1 = .ok (.istore_n 2, 1) := by decide +kernel
theorem dX3_countOf_2 : decode cX3_countOf 2 = .ok (.iconst 0, 1) := by decide +kernel
theorem dX3_countOf_3 : decode cX3_countOf 3 = .ok (.istore_n 3, 1) := by decide +kernel
theorem dX3_countOf_4 : decode cX3_countOf 4 = .ok (.iload_n 3, 1) := by decide +kernel
theorem dX3_countOf_5 : decode cX3_countOf 5 = .ok (.bipush 10, 2) := by decide +kernel
theorem dX3_countOf_7 : decode cX3_countOf 7 = .ok (.if_icmp .ge 27, 3) := by decide +kernel
theorem dX3_countOf_10 : decode cX3_countOf 10 = .ok (.iload_n 2, 1) := by decide +kernel
theorem dX3_countOf_11 : decode cX3_countOf 11 = .ok (.aload_n 0, 1) := by decide +kernel
theorem dX3_countOf_12 : decode cX3_countOf 12 = .ok (.getfield 18, 3) := by decide +kernel
theorem dX3_countOf_15 : decode cX3_countOf 15 = .ok (.iload_n 3, 1) := by decide +kernel
theorem dX3_countOf_16 : decode cX3_countOf 16 = .ok (.iaload, 1) := by decide +kernel
theorem dX3_countOf_17 : decode cX3_countOf 17 = .ok (.iload_n 1, 1) := by decide +kernel
theorem dX3_countOf_18 : decode cX3_countOf 18 = .ok (.if_icmp .ne 7, 3) := by decide +kernel
theorem dX3_countOf_21 : decode cX3_countOf 21 = .ok (.iconst 1, 1) := by decide +kernel
theorem dX3_countOf_22 : decode cX3_countOf 22 = .ok (.goto 4, 3) := by decide +kernel
theorem dX3_countOf_25 : decode cX3_countOf 25 = .ok (.iconst 0, 1) := by decide +kernel
theorem dX3_countOf_26 : decode cX3_countOf 26 = .ok (.iadd, 1) := by decide +kernel
theorem dX3_countOf_27 : decode cX3_countOf 27 = .ok (.istore_n 2, 1) := by decide +kernel
theorem dX3_countOf_28 : decode cX3_countOf 28 = .ok (.iinc 3 1, 3) := by decide +kernel
theorem dX3_countOf_31 : decode cX3_countOf 31 = .ok (.goto (-27), 3) := by decide +kernel
theorem dX3_countOf_34 : decode cX3_countOf 34 = .ok (.iload_n 2, 1) := by decide +kernel
theorem dX3_countOf_35 : decode cX3_countOf 35 = .ok (.ireturn, 1) := by decide +kernel
set_option maxRecDepth 20000 in
theorem ggX3_holderAwaitedBy_X2_placeOf : GoodIn wsX3_holderAwaitedBy wsX2_placeOf := goodIn_r _ [7, 8, 9, 10, 11, 12, 6, 13, 14, 19, 20, 21] (by decide +kernel) (by decide +kernel)
set_option maxRecDepth 20000 in
theorem gX3_holderAwaitedBy_X2_placeOf : GoodIn wsX3_holderAwaitedBy (wsV RX3 43 RX2 yX2_placeOf wsX2_placeOf) := goodIn_app (goodIn_of _ (by decide +kernel)) ggX3_holderAwaitedBy_X2_placeOf
theorem dX3_holderAwaitedBy_0 : decode cX3_holderAwaitedBy 0 = .ok (.iconst 0, 1) := by decide +kernel
theorem dX3_holderAwaitedBy_1 : decode cX3_holderAwaitedBy 1 = .ok (.istore_n 2, 1) := by decide +kernel
theorem dX3_holderAwaitedBy_2 : decode cX3_holderAwaitedBy 2 = .ok (.iload_n 2, 1) := by decide +kernel
theorem dX3_holderAwaitedBy_3 : decode cX3_holderAwaitedBy 3 = .ok (.bipush 10, 2) := by decide +kernel
theorem dX3_holderAwaitedBy_5 : decode cX3_holderAwaitedBy 5 = .ok (.if_icmp .ge 29, 3) := by decide +kernel
theorem dX3_holderAwaitedBy_8 : decode cX3_holderAwaitedBy 8 = .ok (.aload_n 0, 1) := by decide +kernel
theorem dX3_holderAwaitedBy_9 : decode cX3_holderAwaitedBy 9 = .ok (.getfield 26, 3) := by decide +kernel
theorem dX3_holderAwaitedBy_12 : decode cX3_holderAwaitedBy 12 = .ok (.iload_n 2, 1) := by decide +kernel
theorem dX3_holderAwaitedBy_13 : decode cX3_holderAwaitedBy 13 = .ok (.iload_n 1, 1) := by decide +kernel
theorem dX3_holderAwaitedBy_14 : decode cX3_holderAwaitedBy 14 = .ok (.invokevirtual 43, 3) := by decide +kernel
theorem dX3_holderAwaitedBy_17 : decode cX3_holderAwaitedBy 17 = .ok (.iconst (-1), 1) := by decide +kernel
theorem dX3_holderAwaitedBy_18 : decode cX3_holderAwaitedBy 18 = .ok (.if_icmp .eq 10, 3) := by decide +kernel
theorem dX3_holderAwaitedBy_21 : decode cX3_holderAwaitedBy 21 = .ok (.aload_n 0, 1) := by decide +kernel
theorem dX3_holderAwaitedBy_22 : decode cX3_holderAwaitedBy 22 = .ok (.getfield 18, 3) := by decide +kernel
theorem dX3_holderAwaitedBy_25 : decode cX3_holderAwaitedBy 25 = .ok (.iload_n 2, 1) := by decide +kernel
theorem dX3_holderAwaitedBy_26 : decode cX3_holderAwaitedBy 26 = .ok (.iaload, 1) := by decide +kernel
theorem dX3_holderAwaitedBy_27 : decode cX3_holderAwaitedBy 27 = .ok (.ireturn, 1) := by decide +kernel
theorem dX3_holderAwaitedBy_28 : decode cX3_holderAwaitedBy 28 = .ok (.iinc 2 1, 3) := by decide +kernel
theorem dX3_holderAwaitedBy_31 : decode cX3_holderAwaitedBy 31 = .ok (.goto (-29), 3) := by decide +kernel
theorem dX3_holderAwaitedBy_34 : decode cX3_holderAwaitedBy 34 = .ok (.iconst (-1), 1) := by decide +kernel
theorem dX3_holderAwaitedBy_35 : decode cX3_holderAwaitedBy 35 = .ok (.ireturn, 1) := by decide +kernel
set_option maxRecDepth 20000 in
theorem ggX4_init_X2_init : GoodIn wsX4_init wsX2_init := goodIn_r _ [15, 16, 2, 3, 17, 18, 19, 20, 21, 22, 23] (by decide +kernel) (by decide +kernel)
set_option maxRecDepth 20000 in
theorem gX4_init_X2_init : GoodIn wsX4_init (wsX2_init) := ggX4_init_X2_init
theorem dX4_init_0 : decode cX4_init 0 = .ok (.aload_n 0, 1) := by decide +kernel
theorem dX4_init_1 : decode cX4_init 1 = .ok (.invokespecial 3, 3) := by decide +kernel
theorem dX4_init_4 : decode cX4_init 4 = .ok (.aload_n 0, 1) := by decide +kernel
theorem dX4_init_5 : decode cX4_init 5 = .ok (.new 9, 3) := by decide +kernel
theorem dX4_init_8 : decode cX4_init 8 = .ok (.dup, 1) := by decide +kernel
theorem dX4_init_9 : decode cX4_init 9 = .ok (.bipush 10, 2) := by decide +kernel
theorem dX4_init_11 : decode cX4_init 11 = .ok (.iconst 4, 1) := by decide +kernel
theorem dX4_init_12 : decode cX4_init 12 = .ok (.invokespecial 11, 3) := by decide +kernel
theorem dX4_init_15 : decode cX4_init 15 = .ok (.putfield 14, 3) := by decide +kernel
theorem dX4_init_18 : decode cX4_init 18 = .ok (.aload_n 0, 1) := by decide +kernel
theorem dX4_init_19 : decode cX4_init 19 = .ok (.new 9, 3) := by decide +kernel
theorem dX4_init_22 : decode cX4_init 22 = .ok (.dup, 1) := by decide +kernel
theorem dX4_init_23 : decode cX4_init 23 = .ok (.bipush 10, 2) := by decide +kernel
theorem dX4_init_25 : decode cX4_init 25 = .ok (.iconst 2, 1) := by decide +kernel
theorem dX4_init_26 : decode cX4_init 26 = .ok (.invokespecial 11, 3) := by decide +kernel
theorem dX4_init_29 : decode cX4_init 29 = .ok (.putfield 20, 3) := by decide +kernel
theorem dX4_init_32 : decode cX4_init 32 = .ok (.aload_n 0, 1) := by decide +kernel
theorem dX4_init_33 : decode cX4_init 33 = .ok (.iconst (-1), 1) := by decide +kernel
theorem dX4_init_34 : decode cX4_init 34 = .ok (.putfield 23, 3) := by decide +kernel
theorem dX4_init_37 : decode cX4_init 37 = .ok (.aload_n 0, 1) := by decide +kernel
theorem dX4_init_38 : decode cX4_init 38 = .ok (.iconst 0, 1) := by decide +kernel
theorem dX4_init_39 : decode cX4_init 39 = .ok (.putfield 27, 3) := by decide +kernel
theorem dX4_init_42 : decode cX4_init 42 = .ok (.aload_n 0, 1) := by decide +kernel
theorem dX4_init_43 : decode cX4_init 43 = .ok (.iconst 0, 1) := by decide +kernel
theorem dX4_init_44 : decode cX4_init 44 = .ok (.putfield 30, 3) := by decide +kernel
theorem dX4_init_47 : decode cX4_init 47 = .ok (.aload_n 0, 1) := by decide +kernel
theorem dX4_init_48 : decode cX4_init 48 = .ok (.iload_n 1, 1) := by decide +kernel
theorem dX4_init_49 : decode cX4_init 49 = .ok (.putfield 33, 3) := by decide +kernel
theorem dX4_init_52 : decode cX4_init 52 = .ok (.return_, 1) := by decide +kernel
theorem dX4_isStep_0 : decode cX4_isStep 0 = .ok (.iload_n 1, 1) := by decide +kernel
theorem dX4_isStep_1 : decode cX4_isStep 1 = .ok (.ifCond .lt 15, 3) := by decide +kernel
theorem dX4_isStep_4 : decode cX4_isStep 4 = .ok (.iload_n 1, 1) := by decide +kernel
theorem dX4_isStep_5 : decode cX4_isStep 5 = .ok (.aload_n 0, 1) := by decide +kernel
theorem dX4_isStep_6 : decode cX4_isStep 6 = .ok (.getfield 36, 3) := by decide +kernel
theorem dX4_isStep_9 : decode cX4_isStep 9 = .ok (.if_icmp .ge 7, 3) := by decide +kernel
theorem dX4_isStep_12 : decode cX4_isStep 12 = .ok (.iconst 1, 1) := by decide +kernel
theorem dX4_isStep_13 : decode cX4_isStep 13 = .ok (.goto 4, 3) := by decide +kernel
theorem dX4_isStep_16 : decode cX4_isStep 16 = .ok (.iconst 0, 1) := by decide +kernel
theorem dX4_isStep_17 : decode cX4_isStep 17 = .ok (.ireturn, 1) := by decide +kernel
set_option maxRecDepth 20000 in
theorem ggX4_gotAll_X2_count : GoodIn wsX4_gotAll wsX2_count := goodIn_r _ [8, 9, 22, 23, 24] (by decide +kernel) (by decide +kernel)
set_option maxRecDepth 20000 in
theorem gX4_gotAll_X2_count : GoodIn wsX4_gotAll (wsV RX4 45 RX2 yX2_count wsX2_count) := goodIn_app (goodIn_of _ (by decide +kernel)) ggX4_gotAll_X2_count
theorem dX4_gotAll_0 : decode cX4_gotAll 0 = .ok (.aload_n 0, 1) := by decide +kernel
theorem dX4_gotAll_1 : decode cX4_gotAll 1 = .ok (.getfield 39, 3) := by decide +kernel
theorem dX4_gotAll_4 : decode cX4_gotAll 4 = .ok (.aload_n 0, 1) := by decide +kernel
theorem dX4_gotAll_5 : decode cX4_gotAll 5 = .ok (.getfield 14, 3) := by decide +kernel
theorem dX4_gotAll_8 : decode cX4_gotAll 8 = .ok (.aload_n 0, 1) := by decide +kernel
theorem dX4_gotAll_9 : decode cX4_gotAll 9 = .ok (.getfield 42, 3) := by decide +kernel
theorem dX4_gotAll_12 : decode cX4_gotAll 12 = .ok (.invokevirtual 45, 3) := by decide +kernel
theorem dX4_gotAll_15 : decode cX4_gotAll 15 = .ok (.if_icmp .lt 7, 3) := by decide +kernel
theorem dX4_gotAll_18 : decode cX4_gotAll 18 = .ok (.iconst 1, 1) := by decide +kernel
theorem dX4_gotAll_19 : decode cX4_gotAll 19 = .ok (.goto 4, 3) := by decide +kernel
theorem dX4_gotAll_22 : decode cX4_gotAll 22 = .ok (.iconst 0, 1) := by decide +kernel
theorem dX4_gotAll_23 : decode cX4_gotAll 23 = .ok (.ireturn, 1) := by decide +kernel
theorem dX4_beginAgain_0 : decode cX4_beginAgain 0 = .ok (.aload_n 0, 1) := by decide +kernel
theorem dX4_beginAgain_1 : decode cX4_beginAgain 1 = .ok (.iconst 0, 1) := by decide +kernel
theorem dX4_beginAgain_2 : decode cX4_beginAgain 2 = .ok (.putfield 27, 3) := by decide +kernel
theorem dX4_beginAgain_5 : decode cX4_beginAgain 5 = .ok (.aload_n 0, 1) := by decide +kernel
theorem dX4_beginAgain_6 : decode cX4_beginAgain 6 = .ok (.iconst 0, 1) := by decide +kernel
theorem dX4_beginAgain_7 : decode cX4_beginAgain 7 = .ok (.putfield 42, 3) := by decide +kernel
theorem dX4_beginAgain_10 : decode cX4_beginAgain 10 = .ok (.aload_n 0, 1) := by decide +kernel
theorem dX4_beginAgain_11 : decode cX4_beginAgain 11 = .ok (.iconst 0, 1) := by decide +kernel
theorem dX4_beginAgain_12 : decode cX4_beginAgain 12 = .ok (.putfield 39, 3) := by decide +kernel
theorem dX4_beginAgain_15 : decode cX4_beginAgain 15 = .ok (.aload_n 0, 1) := by decide +kernel
theorem dX4_beginAgain_16 : decode cX4_beginAgain 16 = .ok (.iconst (-1), 1) := by decide +kernel
theorem dX4_beginAgain_17 : decode cX4_beginAgain 17 = .ok (.putfield 23, 3) := by decide +kernel
theorem dX4_beginAgain_20 : decode cX4_beginAgain 20 = .ok (.aload_n 0, 1) := by decide +kernel
theorem dX4_beginAgain_21 : decode cX4_beginAgain 21 = .ok (.iconst 0, 1) := by decide +kernel
theorem dX4_beginAgain_22 : decode cX4_beginAgain 22 = .ok (.putfield 30, 3) := by decide +kernel
theorem dX4_beginAgain_25 : decode cX4_beginAgain 25 = .ok (.aload_n 0, 1) := by decide +kernel
theorem dX4_beginAgain_26 : decode cX4_beginAgain 26 = .ok (.dup, 1) := by decide +kernel
theorem dX4_beginAgain_27 : decode cX4_beginAgain 27 = .ok (.getfield 49, 3) := by decide +kernel
theorem dX4_beginAgain_30 : decode cX4_beginAgain 30 = .ok (.iconst 1, 1) := by decide +kernel
theorem dX4_beginAgain_31 : decode cX4_beginAgain 31 = .ok (.iadd, 1) := by decide +kernel
theorem dX4_beginAgain_32 : decode cX4_beginAgain 32 = .ok (.putfield 49, 3) := by decide +kernel
theorem dX4_beginAgain_35 : decode cX4_beginAgain 35 = .ok (.return_, 1) := by decide +kernel
set_option maxRecDepth 20000 in
theorem ggX5_init_X3_init : GoodIn wsX5_init wsX3_init := goodIn_r _ [22, 23, 2, 3, 24, 25, 26, 27, 28, 29, 30, 31, 32, 33, 34, 35, 36, 37, 38, 39, 40, 41, 42, 71, 72, 73, 74, 91, 92, 93] (by decide +kernel) (by decide +kernel)
set_option maxRecDepth 20000 in
theorem gX5_init_X3_init : GoodIn wsX5_init (wsX3_init) := ggX5_init_X3_init
set_option maxRecDepth 20000 in
theorem ggX5_init_X1_init : GoodIn wsX5_init wsX1_init := goodIn_r _ [44, 45, 2, 3, 24, 46, 47, 75, 76, 77] (by decide +kernel) (by decide +kernel)
set_option maxRecDepth 20000 in
theorem gX5_init_X1_init_n24 : GoodIn wsX5_init (wsX1_init) := ggX5_init_X1_init
set_option maxRecDepth 20000 in
theorem ggX5_init_X0_init : GoodIn wsX5_init wsX0_init := goodIn_r _ [49, 50, 2, 3, 51, 29, 30, 52, 53, 33, 34, 35, 36, 24, 37, 38, 91, 92, 93, 78] (by decide +kernel) (by decide +kernel)
set_option maxRecDepth 20000 in
theorem gX5_init_X0_init_n31 : GoodIn wsX5_init (wsX0_init) := ggX5_init_X0_init
set_option maxRecDepth 20000 in
theorem ggX5_init_X4_init : GoodIn wsX5_init wsX4_init := goodIn_r _ [56, 57, 2, 3, 58, 29, 30, 59, 60, 61, 62, 63, 64, 65, 33, 34, 35, 36, 24, 37, 38, 91, 92, 93, 79, 80, 81, 82, 83, 84, 85, 86, 87, 88, 89, 90] (by decide +kernel) (by decide +kernel)
set_option maxRecDepth 20000 in
theorem gX5_init_X4_init : GoodIn wsX5_init (wsX4_init) := ggX5_init_X4_init
theorem dX5_init_0 : decode cX5_init 0 = .ok (.aload_n 0, 1) := by decide +kernel
theorem dX5_init_1 : decode cX5_init 1 = .ok (.invokespecial 1, 3) := by decide +kernel
theorem dX5_init_4 : decode cX5_init 4 = .ok (.aload_n 0, 1) := by decide +kernel
theorem dX5_init_5 : decode cX5_init 5 = .ok (.bipush 12, 2) := by decide +kernel
theorem dX5_init_7 : decode cX5_init 7 = .ok (.anewarray 9, 3) := by decide +kernel
theorem dX5_init_10 : decode cX5_init 10 = .ok (.putfield 11, 3) := by decide +kernel
theorem dX5_init_13 : decode cX5_init 13 = .ok (.aload_n 0, 1) := by decide +kernel
theorem dX5_init_14 : decode cX5_init 14 = .ok (.new 15, 3) := by decide +kernel
theorem dX5_init_17 : decode cX5_init 17 = .ok (.dup, 1) := by decide +kernel
theorem dX5_init_18 : decode cX5_init 18 = .ok (.invokespecial 17, 3) := by decide +kernel
theorem dX5_init_21 : decode cX5_init 21 = .ok (.putfield 18, 3) := by decide +kernel
theorem dX5_init_24 : decode cX5_init 24 = .ok (.aload_n 0, 1) := by decide +kernel
theorem dX5_init_25 : decode cX5_init 25 = .ok (.new 22, 3) := by decide +kernel
theorem dX5_init_28 : decode cX5_init 28 = .ok (.dup, 1) := by decide +kernel
theorem dX5_init_29 : decode cX5_init 29 = .ok (.invokespecial 24, 3) := by decide +kernel
theorem dX5_init_32 : decode cX5_init 32 = .ok (.putfield 25, 3) := by decide +kernel
theorem dX5_init_35 : decode cX5_init 35 = .ok (.aload_n 0, 1) := by decide +kernel
theorem dX5_init_36 : decode cX5_init 36 = .ok (.new 29, 3) := by decide +kernel
theorem dX5_init_39 : decode cX5_init 39 = .ok (.dup, 1) := by decide +kernel
theorem dX5_init_40 : decode cX5_init 40 = .ok (.invokespecial 31, 3) := by decide +kernel
theorem dX5_init_43 : decode cX5_init 43 = .ok (.putfield 32, 3) := by decide +kernel
theorem dX5_init_46 : decode cX5_init 46 = .ok (.iconst 0, 1) := by decide +kernel
theorem dX5_init_47 : decode cX5_init 47 = .ok (.istore_n 1, 1) := by decide +kernel
theorem dX5_init_48 : decode cX5_init 48 = .ok (.iload_n 1, 1) := by decide +kernel
theorem dX5_init_49 : decode cX5_init 49 = .ok (.bipush 12, 2) := by decide +kernel
theorem dX5_init_51 : decode cX5_init 51 = .ok (.if_icmp .ge 23, 3) := by decide +kernel
theorem dX5_init_54 : decode cX5_init 54 = .ok (.aload_n 0, 1) := by decide +kernel
theorem dX5_init_55 : decode cX5_init 55 = .ok (.getfield 11, 3) := by decide +kernel
theorem dX5_init_58 : decode cX5_init 58 = .ok (.iload_n 1, 1) := by decide +kernel
theorem dX5_init_59 : decode cX5_init 59 = .ok (.new 9, 3) := by decide +kernel
theorem dX5_init_62 : decode cX5_init 62 = .ok (.dup, 1) := by decide +kernel
theorem dX5_init_63 : decode cX5_init 63 = .ok (.iload_n 1, 1) := by decide +kernel
theorem dX5_init_64 : decode cX5_init 64 = .ok (.invokespecial 36, 3) := by decide +kernel
theorem dX5_init_67 : decode cX5_init 67 = .ok (.aastore, 1) := by decide +kernel
theorem dX5_init_68 : decode cX5_init 68 = .ok (.iinc 1 1, 3) := by decide +kernel
theorem dX5_init_71 : decode cX5_init 71 = .ok (.goto (-23), 3) := by decide +kernel
theorem dX5_init_74 : decode cX5_init 74 = .ok (.return_, 1) := by decide +kernel
theorem dX5_work_0 : decode cX5_work 0 = .ok (.iload_n 1, 1) := by decide +kernel
theorem dX5_work_1 : decode cX5_work 1 = .ok (.iconst 1, 1) := by decide +kernel
theorem dX5_work_2 : decode cX5_work 2 = .ok (.if_icmp .lt 19, 3) := by decide +kernel
theorem dX5_work_5 : decode cX5_work 5 = .ok (.iload_n 1, 1) := by decide +kernel
theorem dX5_work_6 : decode cX5_work 6 = .ok (.bipush 10, 2) := by decide +kernel
theorem dX5_work_8 : decode cX5_work 8 = .ok (.if_icmp .gt 13, 3) := by decide +kernel
theorem dX5_work_11 : decode cX5_work 11 = .ok (.iload_n 2, 1) := by decide +kernel
theorem dX5_work_12 : decode cX5_work 12 = .ok (.iconst (-1), 1) := by decide +kernel
theorem dX5_work_13 : decode cX5_work 13 = .ok (.if_icmp .lt 8, 3) := by decide +kernel
theorem dX5_work_16 : decode cX5_work 16 = .ok (.iload_n 2, 1) := by decide +kernel
theorem dX5_work_17 : decode cX5_work 17 = .ok (.iload_n 1, 1) := by decide +kernel
theorem dX5_work_18 : decode cX5_work 18 = .ok (.if_icmp .lt 6, 3) := by decide +kernel
theorem dX5_work_21 : decode cX5_work 21 = .ok (.bipush (-2), 2) := by decide +kernel
theorem dX5_work_23 : decode cX5_work 23 = .ok (.ireturn, 1) := by decide +kernel
theorem dX5_work_24 : decode cX5_work 24 = .ok (.aload_n 0, 1) := by decide +kernel
theorem dX5_work_25 : decode cX5_work 25 = .ok (.getfield 39, 3) := by decide +kernel
theorem dX5_work_28 : decode cX5_work 28 = .ok (.bipush 12, 2) := by decide +kernel
theorem dX5_work_30 : decode cX5_work 30 = .ok (.if_icmp .lt 6, 3) := by decide +kernel
theorem dX5_work_33 : decode cX5_work 33 = .ok (.bipush (-4), 2) := by decide +kernel
theorem dX5_work_35 : decode cX5_work 35 = .ok (.ireturn, 1) := by decide +kernel
theorem dX5_work_36 : decode cX5_work 36 = .ok (.aload_n 0, 1) := by decide +kernel
theorem dX5_work_37 : decode cX5_work 37 = .ok (.getfield 11, 3) := by decide +kernel
theorem dX5_work_40 : decode cX5_work 40 = .ok (.aload_n 0, 1) := by decide +kernel
theorem dX5_work_41 : decode cX5_work 41 = .ok (.getfield 39, 3) := by decide +kernel
theorem dX5_work_44 : decode cX5_work 44 = .ok (.aaload, 1) := by decide +kernel
theorem dX5_work_45 : decode cX5_work 45 = .ok (.astore_n 3, 1) := by decide +kernel
theorem dX5_work_46 : decode cX5_work 46 = .ok (.aload_n 3, 1) := by decide +kernel
theorem dX5_work_47 : decode cX5_work 47 = .ok (.iload_n 1, 1) := by decide +kernel
theorem dX5_work_48 : decode cX5_work 48 = .ok (.putfield 43, 3) := by decide +kernel
theorem dX5_work_51 : decode cX5_work 51 = .ok (.aload_n 3, 1) := by decide +kernel
theorem dX5_work_52 : decode cX5_work 52 = .ok (.iload_n 2, 1) := by decide +kernel
theorem dX5_work_53 : decode cX5_work 53 = .ok (.putfield 46, 3) := by decide +kernel
theorem dX5_work_56 : decode cX5_work 56 = .ok (.aload_n 0, 1) := by decide +kernel
theorem dX5_work_57 : decode cX5_work 57 = .ok (.dup, 1) := by decide +kernel
theorem dX5_work_58 : decode cX5_work 58 = .ok (.getfield 39, 3) := by decide +kernel
theorem dX5_work_61 : decode cX5_work 61 = .ok (.iconst 1, 1) := by decide +kernel
theorem dX5_work_62 : decode cX5_work 62 = .ok (.iadd, 1) := by decide +kernel
theorem dX5_work_63 : decode cX5_work 63 = .ok (.putfield 39, 3) := by decide +kernel
theorem dX5_work_66 : decode cX5_work 66 = .ok (.aload_n 3, 1) := by decide +kernel
theorem dX5_work_67 : decode cX5_work 67 = .ok (.getfield 49, 3) := by decide +kernel
theorem dX5_work_70 : decode cX5_work 70 = .ok (.ireturn, 1) := by decide +kernel
set_option maxRecDepth 20000 in
theorem ggX5_wants_X5_find : GoodIn wsX5_wants wsX5_find := goodIn_r _ [5, 6, 7, 8, 9, 4, 10, 11, 45, 46, 47, 48, 49] (by decide +kernel) (by decide +kernel)
set_option maxRecDepth 20000 in
theorem gX5_wants_X5_find : GoodIn wsX5_wants (wsV RX5 52 RX5 yX5_find wsX5_find) := goodIn_app (goodIn_of _ (by decide +kernel)) ggX5_wants_X5_find
set_option maxRecDepth 20000 in
theorem ggX5_wants_X4_isStep : GoodIn wsX5_wants wsX4_isStep := goodIn_r _ [16, 17, 33, 34, 35, 36, 37, 38, 39, 40, 41, 42, 43, 44] (by decide +kernel) (by decide +kernel)
set_option maxRecDepth 20000 in
theorem gX5_wants_X4_isStep : GoodIn wsX5_wants (wsV RX5 56 RX4 yX4_isStep wsX4_isStep) := goodIn_app (goodIn_of _ (by decide +kernel)) ggX5_wants_X4_isStep
set_option maxRecDepth 20000 in
theorem ggX5_wants_X5_isOther : GoodIn wsX5_wants wsX5_isOther := goodIn_r _ [21, 7, 8, 9, 4, 10, 11, 45, 46, 47, 48, 49] (by decide +kernel) (by decide +kernel)
set_option maxRecDepth 20000 in
theorem gX5_wants_X5_isOther : GoodIn wsX5_wants (wsV RX5 60 RX5 yX5_isOther wsX5_isOther) := goodIn_app (goodIn_of _ (by decide +kernel)) ggX5_wants_X5_isOther
set_option maxRecDepth 20000 in
theorem ggX5_wants_X5_isCopy : GoodIn wsX5_wants wsX5_isCopy := goodIn_r _ [24] (by decide +kernel) (by decide +kernel)
set_option maxRecDepth 20000 in
theorem gX5_wants_X5_isCopy : GoodIn wsX5_wants (va_wsS RX5 64 yX5_isCopy wsX5_isCopy) := goodIn_app (goodIn_of _ (by decide +kernel)) ggX5_wants_X5_isCopy
set_option maxRecDepth 20000 in
theorem ggX5_wants_X2_add : GoodIn wsX5_wants wsX2_add := goodIn_r _ [29, 30, 31, 32, 50, 51, 52] (by decide +kernel) (by decide +kernel)
set_option maxRecDepth 20000 in
theorem gX5_wants_X2_add : GoodIn wsX5_wants (wsV RX5 75 RX2 yX2_add wsX2_add) := goodIn_app (goodIn_of _ (by decide +kernel)) ggX5_wants_X2_add
theorem dX5_wants_0 : decode cX5_wants 0 = .ok (.aload_n 0, 1) := by decide +kernel
theorem dX5_wants_1 : decode cX5_wants 1 = .ok (.iload_n 1, 1) := by decide +kernel
theorem dX5_wants_2 : decode cX5_wants 2 = .ok (.invokevirtual 52, 3) := by decide +kernel
theorem dX5_wants_5 : decode cX5_wants 5 = .ok (.astore 5, 2) := by decide +kernel
theorem dX5_wants_7 : decode cX5_wants 7 = .ok (.aload 5, 2) := by decide +kernel
theorem dX5_wants_9 : decode cX5_wants 9 = .ok (.ifnull 12, 3) := by decide +kernel
theorem dX5_wants_12 : decode cX5_wants 12 = .ok (.aload 5, 2) := by decide +kernel
theorem dX5_wants_14 : decode cX5_wants 14 = .ok (.iload_n 2, 1) := by decide +kernel
theorem dX5_wants_15 : decode cX5_wants 15 = .ok (.invokevirtual 56, 3) := by decide +kernel
theorem dX5_wants_18 : decode cX5_wants 18 = .ok (.ifCond .ne 5, 3) := by decide +kernel
theorem dX5_wants_21 : decode cX5_wants 21 = .ok (.iconst (-1), 1) := by decide +kernel
theorem dX5_wants_22 : decode cX5_wants 22 = .ok (.ireturn, 1) := by decide +kernel
theorem dX5_wants_23 : decode cX5_wants 23 = .ok (.iload_n 3, 1) := by decide +kernel
theorem dX5_wants_24 : decode cX5_wants 24 = .ok (.ifCond .eq 16, 3) := by decide +kernel
theorem dX5_wants_27 : decode cX5_wants 27 = .ok (.aload_n 0, 1) := by decide +kernel
theorem dX5_wants_28 : decode cX5_wants 28 = .ok (.iload_n 1, 1) := by decide +kernel
theorem dX5_wants_29 : decode cX5_wants 29 = .ok (.iload 4, 2) := by decide +kernel
theorem dX5_wants_31 : decode cX5_wants 31 = .ok (.invokevirtual 60, 3) := by decide +kernel
theorem dX5_wants_34 : decode cX5_wants 34 = .ok (.ifCond .ne 17, 3) := by decide +kernel
theorem dX5_wants_37 : decode cX5_wants 37 = .ok (.goto 11, 3) := by decide +kernel
theorem dX5_wants_40 : decode cX5_wants 40 = .ok (.iload 4, 2) := by decide +kernel
theorem dX5_wants_42 : decode cX5_wants 42 = .ok (.invokestatic 64, 3) := by decide +kernel
theorem dX5_wants_45 : decode cX5_wants 45 = .ok (.ifCond .ne 6, 3) := by decide +kernel
theorem dX5_wants_48 : decode cX5_wants 48 = .ok (.bipush (-2), 2) := by decide +kernel
theorem dX5_wants_50 : decode cX5_wants 50 = .ok (.ireturn, 1) := by decide +kernel
theorem dX5_wants_51 : decode cX5_wants 51 = .ok (.aload 5, 2) := by decide +kernel
theorem dX5_wants_53 : decode cX5_wants 53 = .ok (.getfield 67, 3) := by decide +kernel
theorem dX5_wants_56 : decode cX5_wants 56 = .ok (.ifCond .eq 6, 3) := by decide +kernel
theorem dX5_wants_59 : decode cX5_wants 59 = .ok (.bipush (-3), 2) := by decide +kernel
theorem dX5_wants_61 : decode cX5_wants 61 = .ok (.ireturn, 1) := by decide +kernel
theorem dX5_wants_62 : decode cX5_wants 62 = .ok (.aload 5, 2) := by decide +kernel
theorem dX5_wants_64 : decode cX5_wants 64 = .ok (.getfield 71, 3) := by decide +kernel
theorem dX5_wants_67 : decode cX5_wants 67 = .ok (.iload_n 2, 1) := by decide +kernel
theorem dX5_wants_68 : decode cX5_wants 68 = .ok (.iload_n 3, 1) := by decide +kernel
theorem dX5_wants_69 : decode cX5_wants 69 = .ok (.ifCond .eq 11, 3) := by decide +kernel
theorem dX5_wants_72 : decode cX5_wants 72 = .ok (.bipush 10, 2) := by decide +kernel
theorem dX5_wants_74 : decode cX5_wants 74 = .ok (.iload 4, 2) := by decide +kernel
theorem dX5_wants_76 : decode cX5_wants 76 = .ok (.iadd, 1) := by decide +kernel
theorem dX5_wants_77 : decode cX5_wants 77 = .ok (.goto 5, 3) := by decide +kernel
theorem dX5_wants_80 : decode cX5_wants 80 = .ok (.iload 4, 2) := by decide +kernel
theorem dX5_wants_82 : decode cX5_wants 82 = .ok (.invokevirtual 75, 3) := by decide +kernel
theorem dX5_wants_85 : decode cX5_wants 85 = .ok (.ireturn, 1) := by decide +kernel
set_option maxRecDepth 20000 in
theorem ggX5_sends_X5_find : GoodIn wsX5_sends wsX5_find := goodIn_r _ [5, 6, 7, 8, 9, 4, 10, 11, 42, 43, 44, 45, 46] (by decide +kernel) (by decide +kernel)
set_option maxRecDepth 20000 in
theorem gX5_sends_X5_find : GoodIn wsX5_sends (wsV RX5 52 RX5 yX5_find wsX5_find) := goodIn_app (goodIn_of _ (by decide +kernel)) ggX5_sends_X5_find
set_option maxRecDepth 20000 in
theorem ggX5_sends_X4_isStep : GoodIn wsX5_sends wsX4_isStep := goodIn_r _ [16, 17, 30, 31, 32, 33, 34, 35, 36, 37, 38, 39, 40, 41] (by decide +kernel) (by decide +kernel)
set_option maxRecDepth 20000 in
theorem gX5_sends_X4_isStep : GoodIn wsX5_sends (wsV RX5 56 RX4 yX4_isStep wsX4_isStep) := goodIn_app (goodIn_of _ (by decide +kernel)) ggX5_sends_X4_isStep
set_option maxRecDepth 20000 in
theorem ggX5_sends_X5_isOther : GoodIn wsX5_sends wsX5_isOther := goodIn_r _ [21, 7, 8, 9, 4, 10, 11, 42, 43, 44, 45, 46] (by decide +kernel) (by decide +kernel)
set_option maxRecDepth 20000 in
theorem gX5_sends_X5_isOther : GoodIn wsX5_sends (wsV RX5 60 RX5 yX5_isOther wsX5_isOther) := goodIn_app (goodIn_of _ (by decide +kernel)) ggX5_sends_X5_isOther
set_option maxRecDepth 20000 in
theorem ggX5_sends_X2_add : GoodIn wsX5_sends wsX2_add := goodIn_r _ [26, 27, 28, 29, 47, 48, 49] (by decide +kernel) (by decide +kernel)
set_option maxRecDepth 20000 in
theorem gX5_sends_X2_add : GoodIn wsX5_sends (wsV RX5 75 RX2 yX2_add wsX2_add) := goodIn_app (goodIn_of _ (by decide +kernel)) ggX5_sends_X2_add
theorem dX5_sends_0 : decode cX5_sends 0 = .ok (.aload_n 0, 1) := by decide +kernel
theorem dX5_sends_1 : decode cX5_sends 1 = .ok (.iload_n 1, 1) := by decide +kernel
theorem dX5_sends_2 : decode cX5_sends 2 = .ok (.invokevirtual 52, 3) := by decide +kernel
theorem dX5_sends_5 : decode cX5_sends 5 = .ok (.astore 4, 2) := by decide +kernel
theorem dX5_sends_7 : decode cX5_sends 7 = .ok (.aload 4, 2) := by decide +kernel
theorem dX5_sends_9 : decode cX5_sends 9 = .ok (.ifnull 12, 3) := by decide +kernel
theorem dX5_sends_12 : decode cX5_sends 12 = .ok (.aload 4, 2) := by decide +kernel
theorem dX5_sends_14 : decode cX5_sends 14 = .ok (.iload_n 2, 1) := by decide +kernel
theorem dX5_sends_15 : decode cX5_sends 15 = .ok (.invokevirtual 56, 3) := by decide +kernel
theorem dX5_sends_18 : decode cX5_sends 18 = .ok (.ifCond .ne 5, 3) := by decide +kernel
theorem dX5_sends_21 : decode cX5_sends 21 = .ok (.iconst (-1), 1) := by decide +kernel
theorem dX5_sends_22 : decode cX5_sends 22 = .ok (.ireturn, 1) := by decide +kernel
theorem dX5_sends_23 : decode cX5_sends 23 = .ok (.aload_n 0, 1) := by decide +kernel
theorem dX5_sends_24 : decode cX5_sends 24 = .ok (.iload_n 1, 1) := by decide +kernel
theorem dX5_sends_25 : decode cX5_sends 25 = .ok (.iload_n 3, 1) := by decide +kernel
theorem dX5_sends_26 : decode cX5_sends 26 = .ok (.invokevirtual 60, 3) := by decide +kernel
theorem dX5_sends_29 : decode cX5_sends 29 = .ok (.ifCond .ne 6, 3) := by decide +kernel
theorem dX5_sends_32 : decode cX5_sends 32 = .ok (.bipush (-2), 2) := by decide +kernel
theorem dX5_sends_34 : decode cX5_sends 34 = .ok (.ireturn, 1) := by decide +kernel
theorem dX5_sends_35 : decode cX5_sends 35 = .ok (.aload 4, 2) := by decide +kernel
theorem dX5_sends_37 : decode cX5_sends 37 = .ok (.getfield 67, 3) := by decide +kernel
theorem dX5_sends_40 : decode cX5_sends 40 = .ok (.ifCond .eq 6, 3) := by decide +kernel
theorem dX5_sends_43 : decode cX5_sends 43 = .ok (.bipush (-3), 2) := by decide +kernel
theorem dX5_sends_45 : decode cX5_sends 45 = .ok (.ireturn, 1) := by decide +kernel
theorem dX5_sends_46 : decode cX5_sends 46 = .ok (.aload 4, 2) := by decide +kernel
theorem dX5_sends_48 : decode cX5_sends 48 = .ok (.getfield 81, 3) := by decide +kernel
theorem dX5_sends_51 : decode cX5_sends 51 = .ok (.iload_n 2, 1) := by decide +kernel
theorem dX5_sends_52 : decode cX5_sends 52 = .ok (.iload_n 3, 1) := by decide +kernel
theorem dX5_sends_53 : decode cX5_sends 53 = .ok (.invokevirtual 75, 3) := by decide +kernel
theorem dX5_sends_56 : decode cX5_sends 56 = .ok (.ireturn, 1) := by decide +kernel
theorem dX5_loses_0 : decode cX5_loses 0 = .ok (.iload_n 1, 1) := by decide +kernel
theorem dX5_loses_1 : decode cX5_loses 1 = .ok (.ifCond .lt 9, 3) := by decide +kernel
theorem dX5_loses_4 : decode cX5_loses 4 = .ok (.iload_n 1, 1) := by decide +kernel
theorem dX5_loses_5 : decode cX5_loses 5 = .ok (.bipush 100, 2) := by decide +kernel
theorem dX5_loses_7 : decode cX5_loses 7 = .ok (.if_icmp .le 6, 3) := by decide +kernel
theorem dX5_loses_10 : decode cX5_loses 10 = .ok (.bipush (-2), 2) := by decide +kernel
theorem dX5_loses_12 : decode cX5_loses 12 = .ok (.ireturn, 1) := by decide +kernel
theorem dX5_loses_13 : decode cX5_loses 13 = .ok (.aload_n 0, 1) := by decide +kernel
theorem dX5_loses_14 : decode cX5_loses 14 = .ok (.getfield 25, 3) := by decide +kernel
theorem dX5_loses_17 : decode cX5_loses 17 = .ok (.iload_n 1, 1) := by decide +kernel
theorem dX5_loses_18 : decode cX5_loses 18 = .ok (.putfield 84, 3) := by decide +kernel
theorem dX5_loses_21 : decode cX5_loses 21 = .ok (.iconst 1, 1) := by decide +kernel
theorem dX5_loses_22 : decode cX5_loses 22 = .ok (.ireturn, 1) := by decide +kernel
set_option maxRecDepth 20000 in
theorem ggX5_turn_X5_find : GoodIn wsX5_turn wsX5_find := goodIn_r _ [5, 6, 7, 8, 9, 4, 10, 11, 141, 142, 143, 144, 145] (by decide +kernel) (by decide +kernel)
set_option maxRecDepth 20000 in
theorem gX5_turn_X5_find : GoodIn wsX5_turn (wsV RX5 52 RX5 yX5_find wsX5_find) := goodIn_app (goodIn_of _ (by decide +kernel)) ggX5_turn_X5_find
set_option maxRecDepth 20000 in
theorem ggX5_turn_X5_takeTurn : GoodIn wsX5_turn wsX5_takeTurn := goodIn_r _ [15, 16, 17, 18, 19, 20, 21, 22, 23, 24, 25, 26, 27, 28, 29, 30, 31, 32, 4, 33, 34, 35, 36, 37, 38, 39, 40, 41, 42, 43, 44, 45, 46, 47, 48, 49, 50, 51, 52, 53, 54, 55, 56, 57, 58, 59, 60, 61, 62, 63, 64, 65, 66, 67, 68, 69, 70, 71, 72, 73, 74, 75, 76, 77, 78, 79, 80, 81, 82, 83, 84, 85, 86, 87, 88, 89, 90, 91, 92, 93, 94, 95, 96, 97, 98, 99, 100, 101, 102, 103, 104, 105, 106, 107, 108, 109, 110, 111, 112, 113, 114, 115, 116, 117, 118, 119, 120, 121, 122, 123, 124, 125, 126, 127, 128, 129, 130, 131, 132, 133, 134, 135, 136, 137, 138, 139, 140, 146, 147, 148, 149, 150, 151, 152, 153, 154, 155, 156, 157, 158, 159, 160, 141, 142, 143, 144, 145, 161, 162, 163, 164, 165, 166, 167, 168] (by decide +kernel) (by decide +kernel)
set_option maxRecDepth 20000 in
theorem gX5_turn_X5_takeTurn : GoodIn wsX5_turn (wsV RX5 87 RX5 yX5_takeTurn wsX5_takeTurn) := goodIn_app (goodIn_of _ (by decide +kernel)) ggX5_turn_X5_takeTurn
theorem dX5_turn_0 : decode cX5_turn 0 = .ok (.aload_n 0, 1) := by decide +kernel
theorem dX5_turn_1 : decode cX5_turn 1 = .ok (.iload_n 1, 1) := by decide +kernel
theorem dX5_turn_2 : decode cX5_turn 2 = .ok (.invokevirtual 52, 3) := by decide +kernel
theorem dX5_turn_5 : decode cX5_turn 5 = .ok (.astore_n 2, 1) := by decide +kernel
theorem dX5_turn_6 : decode cX5_turn 6 = .ok (.aload_n 2, 1) := by decide +kernel
theorem dX5_turn_7 : decode cX5_turn 7 = .ok (.ifnonnull 7, 3) := by decide +kernel
theorem dX5_turn_10 : decode cX5_turn 10 = .ok (.iconst 0, 1) := by decide +kernel
theorem dX5_turn_11 : decode cX5_turn 11 = .ok (.goto 8, 3) := by decide +kernel
theorem dX5_turn_14 : decode cX5_turn 14 = .ok (.aload_n 0, 1) := by decide +kernel
theorem dX5_turn_15 : decode cX5_turn 15 = .ok (.aload_n 2, 1) := by decide +kernel
theorem dX5_turn_16 : decode cX5_turn 16 = .ok (.invokevirtual 87, 3) := by decide +kernel
theorem dX5_turn_19 : decode cX5_turn 19 = .ok (.ireturn, 1) := by decide +kernel
set_option maxRecDepth 20000 in
theorem ggX5_run_X5_takeTurn : GoodIn wsX5_run wsX5_takeTurn := goodIn_r _ [8, 9, 10, 11, 12, 13, 14, 15, 16, 17, 18, 19, 20, 21, 22, 23, 24, 25, 7, 26, 27, 28, 29, 30, 31, 32, 33, 34, 35, 36, 37, 38, 39, 40, 41, 42, 43, 44, 45, 46, 47, 48, 49, 50, 51, 52, 53, 54, 55, 56, 57, 58, 59, 60, 61, 62, 63, 64, 65, 66, 67, 68, 69, 70, 71, 72, 73, 74, 75, 76, 77, 78, 79, 80, 81, 82, 83, 84, 85, 86, 87, 88, 89, 90, 91, 92, 93, 94, 95, 96, 97, 98, 99, 100, 101, 102, 103, 104, 105, 106, 107, 108, 109, 110, 111, 112, 113, 114, 115, 116, 117, 118, 119, 120, 121, 122, 123, 124, 125, 126, 127, 128, 129, 130, 131, 132, 133, 142, 143, 144, 145, 146, 147, 148, 149, 150, 151, 152, 153, 154, 155, 156, 137, 138, 139, 140, 141, 157, 158, 159, 160, 161, 162, 163, 164] (by decide +kernel) (by decide +kernel)
set_option maxRecDepth 20000 in
theorem gX5_run_X5_takeTurn : GoodIn wsX5_run (wsV RX5 87 RX5 yX5_takeTurn wsX5_takeTurn) := goodIn_app (goodIn_of _ (by decide +kernel)) ggX5_run_X5_takeTurn
set_option maxRecDepth 20000 in
theorem ggX5_run_X5_isWaiting : GoodIn wsX5_run wsX5_isWaiting := goodIn_r _ [136] (by decide +kernel) (by decide +kernel)
set_option maxRecDepth 20000 in
theorem gX5_run_X5_isWaiting : GoodIn wsX5_run (va_wsS RX5 92 yX5_isWaiting wsX5_isWaiting) := goodIn_app (goodIn_of _ (by decide +kernel)) ggX5_run_X5_isWaiting
theorem dX5_run_0 : decode cX5_run 0 = .ok (.iconst 0, 1) := by decide +kernel
theorem dX5_run_1 : decode cX5_run 1 = .ok (.istore_n 1, 1) := by decide +kernel
theorem dX5_run_2 : decode cX5_run 2 = .ok (.iconst 1, 1) := by decide +kernel
theorem dX5_run_3 : decode cX5_run 3 = .ok (.istore_n 2, 1) := by decide +kernel
theorem dX5_run_4 : decode cX5_run 4 = .ok (.iconst 0, 1) := by decide +kernel
theorem dX5_run_5 : decode cX5_run 5 = .ok (.istore_n 3, 1) := by decide +kernel
theorem dX5_run_6 : decode cX5_run 6 = .ok (.iload_n 2, 1) := by decide +kernel
theorem dX5_run_7 : decode cX5_run 7 = .ok (.ifCond .eq 85, 3) := by decide +kernel
theorem dX5_run_10 : decode cX5_run 10 = .ok (.iload_n 3, 1) := by decide +kernel
theorem dX5_run_11 : decode cX5_run 11 = .ok (.ldc 91, 2) := by decide +kernel
theorem dX5_run_13 : decode cX5_run 13 = .ok (.if_icmp .ge 79, 3) := by decide +kernel
theorem dX5_run_16 : decode cX5_run 16 = .ok (.iconst 0, 1) := by decide +kernel
theorem dX5_run_17 : decode cX5_run 17 = .ok (.istore_n 2, 1) := by decide +kernel
theorem dX5_run_18 : decode cX5_run 18 = .ok (.iconst 0, 1) := by decide +kernel
theorem dX5_run_19 : decode cX5_run 19 = .ok (.istore 4, 2) := by decide +kernel
theorem dX5_run_21 : decode cX5_run 21 = .ok (.iload 4, 2) := by decide +kernel
theorem dX5_run_23 : decode cX5_run 23 = .ok (.aload_n 0, 1) := by decide +kernel
theorem dX5_run_24 : decode cX5_run 24 = .ok (.getfield 39, 3) := by decide +kernel
theorem dX5_run_27 : decode cX5_run 27 = .ok (.if_icmp .ge 59, 3) := by decide +kernel
theorem dX5_run_30 : decode cX5_run 30 = .ok (.aload_n 0, 1) := by decide +kernel
theorem dX5_run_31 : decode cX5_run 31 = .ok (.aload_n 0, 1) := by decide +kernel
theorem dX5_run_32 : decode cX5_run 32 = .ok (.getfield 11, 3) := by decide +kernel
theorem dX5_run_35 : decode cX5_run 35 = .ok (.iload 4, 2) := by decide +kernel
theorem dX5_run_37 : decode cX5_run 37 = .ok (.aaload, 1) := by decide +kernel
theorem dX5_run_38 : decode cX5_run 38 = .ok (.invokevirtual 87, 3) := by decide +kernel
theorem dX5_run_41 : decode cX5_run 41 = .ok (.istore 5, 2) := by decide +kernel
theorem dX5_run_43 : decode cX5_run 43 = .ok (.iload_n 2, 1) := by decide +kernel
theorem dX5_run_44 : decode cX5_run 44 = .ok (.ifCond .ne 16, 3) := by decide +kernel
theorem dX5_run_47 : decode cX5_run 47 = .ok (.iload 5, 2) := by decide +kernel
theorem dX5_run_49 : decode cX5_run 49 = .ok (.ifCond .eq 15, 3) := by decide +kernel
theorem dX5_run_52 : decode cX5_run 52 = .ok (.iload 5, 2) := by decide +kernel
theorem dX5_run_54 : decode cX5_run 54 = .ok (.invokestatic 92, 3) := by decide +kernel
theorem dX5_run_57 : decode cX5_run 57 = .ok (.ifCond .ne 7, 3) := by decide +kernel
theorem dX5_run_60 : decode cX5_run 60 = .ok (.iconst 1, 1) := by decide +kernel
theorem dX5_run_61 : decode cX5_run 61 = .ok (.goto 4, 3) := by decide +kernel
theorem dX5_run_64 : decode cX5_run 64 = .ok (.iconst 0, 1) := by decide +kernel
theorem dX5_run_65 : decode cX5_run 65 = .ok (.istore_n 2, 1) := by decide +kernel
theorem dX5_run_66 : decode cX5_run 66 = .ok (.iload_n 1, 1) := by decide +kernel
theorem dX5_run_67 : decode cX5_run 67 = .ok (.iload 5, 2) := by decide +kernel
theorem dX5_run_69 : decode cX5_run 69 = .ok (.iconst 2, 1) := by decide +kernel
theorem dX5_run_70 : decode cX5_run 70 = .ok (.if_icmp .ne 7, 3) := by decide +kernel
theorem dX5_run_73 : decode cX5_run 73 = .ok (.iconst 1, 1) := by decide +kernel
theorem dX5_run_74 : decode cX5_run 74 = .ok (.goto 4, 3) := by decide +kernel
theorem dX5_run_77 : decode cX5_run 77 = .ok (.iconst 0, 1) := by decide +kernel
theorem dX5_run_78 : decode cX5_run 78 = .ok (.iadd, 1) := by decide +kernel
theorem dX5_run_79 : decode cX5_run 79 = .ok (.istore_n 1, 1) := by decide +kernel
theorem dX5_run_80 : decode cX5_run 80 = .ok (.iinc 4 1, 3) := by decide +kernel
theorem dX5_run_83 : decode cX5_run 83 = .ok (.goto (-62), 3) := by decide +kernel
theorem dX5_run_86 : decode cX5_run 86 = .ok (.iinc 3 1, 3) := by decide +kernel
theorem dX5_run_89 : decode cX5_run 89 = .ok (.goto (-83), 3) := by decide +kernel
theorem dX5_run_92 : decode cX5_run 92 = .ok (.iload_n 1, 1) := by decide +kernel
theorem dX5_run_93 : decode cX5_run 93 = .ok (.ireturn, 1) := by decide +kernel
set_option maxRecDepth 20000 in
theorem ggX5_ring_X5_greatestInRingOf : GoodIn wsX5_ring wsX5_greatestInRingOf := goodIn_r _ [7, 8, 9, 10, 11, 12, 13, 14, 15, 16, 17, 18, 19, 20, 21, 22, 23, 24, 25, 26, 27, 28, 29, 30, 31, 51, 52, 53, 54, 55, 56, 57, 58, 59, 60, 61, 62] (by decide +kernel) (by decide +kernel)
set_option maxRecDepth 20000 in
theorem gX5_ring_X5_greatestInRingOf : GoodIn wsX5_ring (wsV RX5 95 RX5 yX5_greatestInRingOf wsX5_greatestInRingOf) := goodIn_app (goodIn_of _ (by decide +kernel)) ggX5_ring_X5_greatestInRingOf
set_option maxRecDepth 20000 in
theorem ggX5_ring_X5_undo : GoodIn wsX5_ring wsX5_undo := goodIn_r _ [35, 8, 36, 37, 38, 16, 39, 19, 40, 41, 42, 43, 44, 45, 18, 46, 47, 48, 23, 49, 31, 25, 26, 50, 21, 22, 24, 27, 28, 29, 30, 51, 52, 53, 54, 55, 63, 64, 65, 66, 67, 68, 69, 70, 71, 72, 73, 74, 56, 57, 58, 59, 60, 61, 62] (by decide +kernel) (by decide +kernel)
set_option maxRecDepth 20000 in
theorem gX5_ring_X5_undo : GoodIn wsX5_ring (wsV RX5 99 RX5 yX5_undo wsX5_undo) := goodIn_app (goodIn_of _ (by decide +kernel)) ggX5_ring_X5_undo
theorem dX5_ring_0 : decode cX5_ring 0 = .ok (.iconst 0, 1) := by decide +kernel
theorem dX5_ring_1 : decode cX5_ring 1 = .ok (.istore_n 1, 1) := by decide +kernel
theorem dX5_ring_2 : decode cX5_ring 2 = .ok (.iload_n 1, 1) := by decide +kernel
theorem dX5_ring_3 : decode cX5_ring 3 = .ok (.aload_n 0, 1) := by decide +kernel
theorem dX5_ring_4 : decode cX5_ring 4 = .ok (.getfield 39, 3) := by decide +kernel
theorem dX5_ring_7 : decode cX5_ring 7 = .ok (.if_icmp .ge 33, 3) := by decide +kernel
theorem dX5_ring_10 : decode cX5_ring 10 = .ok (.aload_n 0, 1) := by decide +kernel
theorem dX5_ring_11 : decode cX5_ring 11 = .ok (.iload_n 1, 1) := by decide +kernel
theorem dX5_ring_12 : decode cX5_ring 12 = .ok (.invokevirtual 95, 3) := by decide +kernel
theorem dX5_ring_15 : decode cX5_ring 15 = .ok (.istore_n 2, 1) := by decide +kernel
theorem dX5_ring_16 : decode cX5_ring 16 = .ok (.iload_n 2, 1) := by decide +kernel
theorem dX5_ring_17 : decode cX5_ring 17 = .ok (.iconst (-1), 1) := by decide +kernel
theorem dX5_ring_18 : decode cX5_ring 18 = .ok (.if_icmp .eq 16, 3) := by decide +kernel
theorem dX5_ring_21 : decode cX5_ring 21 = .ok (.aload_n 0, 1) := by decide +kernel
theorem dX5_ring_22 : decode cX5_ring 22 = .ok (.aload_n 0, 1) := by decide +kernel
theorem dX5_ring_23 : decode cX5_ring 23 = .ok (.getfield 11, 3) := by decide +kernel
end
section
theorem dX5_ring_26 : decode cX5_ring 26 = .ok (.iload_n 2, 1) := by decide +kernel
theorem dX5_ring_27 : decode cX5_ring 27 = .ok (.aaload, 1) := by decide +kernel
theorem dX5_ring_28 : decode cX5_ring 28 = .ok (.iconst 3, 1) := by decide +kernel
theorem dX5_ring_29 : decode cX5_ring 29 = .ok (.invokevirtual 99, 3) := by decide +kernel
theorem dX5_ring_32 : decode cX5_ring 32 = .ok (.iload_n 2, 1) := by decide +kernel
theorem dX5_ring_33 : decode cX5_ring 33 = .ok (.ireturn, 1) := by decide +kernel
theorem dX5_ring_34 : decode cX5_ring 34 = .ok (.iinc 1 1, 3) := by decide +kernel
theorem dX5_ring_37 : decode cX5_ring 37 = .ok (.goto (-35), 3) := by decide +kernel
theorem dX5_ring_40 : decode cX5_ring 40 = .ok (.iconst (-1), 1) := by decide +kernel
theorem dX5_ring_41 : decode cX5_ring 41 = .ok (.ireturn, 1) := by decide +kernel
set_option maxRecDepth 20000 in
theorem ggX5_interrupt_X5_find : GoodIn wsX5_interrupt wsX5_find := goodIn_r _ [5, 6, 7, 8, 9, 4, 10, 11, 61, 62, 63, 64, 65] (by decide +kernel) (by decide +kernel)
set_option maxRecDepth 20000 in
theorem gX5_interrupt_X5_find : GoodIn wsX5_interrupt (wsV RX5 52 RX5 yX5_find wsX5_find) := goodIn_app (goodIn_of _ (by decide +kernel)) ggX5_interrupt_X5_find
set_option maxRecDepth 20000 in
theorem ggX5_interrupt_X5_isWaiting : GoodIn wsX5_interrupt wsX5_isWaiting := goodIn_r _ [14] (by decide +kernel) (by decide +kernel)
set_option maxRecDepth 20000 in
theorem gX5_interrupt_X5_isWaiting : GoodIn wsX5_interrupt (va_wsS RX5 92 yX5_isWaiting wsX5_isWaiting) := goodIn_app (goodIn_of _ (by decide +kernel)) ggX5_interrupt_X5_isWaiting
set_option maxRecDepth 20000 in
theorem ggX5_interrupt_X5_undo : GoodIn wsX5_interrupt wsX5_undo := goodIn_r _ [18, 19, 20, 21, 22, 23, 24, 25, 26, 27, 28, 29, 30, 31, 32, 33, 34, 35, 36, 37, 38, 39, 40, 41, 42, 43, 44, 45, 46, 47, 48, 61, 62, 63, 64, 65, 49, 50, 51, 52, 53, 54, 55, 56, 57, 58, 59, 60, 66, 67, 68, 69, 70, 71, 72] (by decide +kernel) (by decide +kernel)
set_option maxRecDepth 20000 in
theorem gX5_interrupt_X5_undo : GoodIn wsX5_interrupt (wsV RX5 99 RX5 yX5_undo wsX5_undo) := goodIn_app (goodIn_of _ (by decide +kernel)) ggX5_interrupt_X5_undo
theorem dX5_interrupt_0 : decode cX5_interrupt 0 = .ok (.aload_n 0, 1) := by decide +kernel
theorem dX5_interrupt_1 : decode cX5_interrupt 1 = .ok (.iload_n 1, 1) := by decide +kernel
theorem dX5_interrupt_2 : decode cX5_interrupt 2 = .ok (.invokevirtual 52, 3) := by decide +kernel
theorem dX5_interrupt_5 : decode cX5_interrupt 5 = .ok (.astore_n 2, 1) := by decide +kernel
theorem dX5_interrupt_6 : decode cX5_interrupt 6 = .ok (.aload_n 2, 1) := by decide +kernel
theorem dX5_interrupt_7 : decode cX5_interrupt 7 = .ok (.ifnonnull 5, 3) := by decide +kernel
theorem dX5_interrupt_10 : decode cX5_interrupt 10 = .ok (.iconst (-1), 1) := by decide +kernel
theorem dX5_interrupt_11 : decode cX5_interrupt 11 = .ok (.ireturn, 1) := by decide +kernel
theorem dX5_interrupt_12 : decode cX5_interrupt 12 = .ok (.aload_n 2, 1) := by decide +kernel
theorem dX5_interrupt_13 : decode cX5_interrupt 13 = .ok (.getfield 103, 3) := by decide +kernel
theorem dX5_interrupt_16 : decode cX5_interrupt 16 = .ok (.ifCond .ne 13, 3) := by decide +kernel
theorem dX5_interrupt_19 : decode cX5_interrupt 19 = .ok (.aload_n 2, 1) := by decide +kernel
theorem dX5_interrupt_20 : decode cX5_interrupt 20 = .ok (.getfield 106, 3) := by decide +kernel
theorem dX5_interrupt_23 : decode cX5_interrupt 23 = .ok (.invokestatic 92, 3) := by decide +kernel
theorem dX5_interrupt_26 : decode cX5_interrupt 26 = .ok (.ifCond .ne 6, 3) := by decide +kernel
theorem dX5_interrupt_29 : decode cX5_interrupt 29 = .ok (.bipush (-3), 2) := by decide +kernel
theorem dX5_interrupt_31 : decode cX5_interrupt 31 = .ok (.ireturn, 1) := by decide +kernel
theorem dX5_interrupt_32 : decode cX5_interrupt 32 = .ok (.aload_n 0, 1) := by decide +kernel
theorem dX5_interrupt_33 : decode cX5_interrupt 33 = .ok (.aload_n 2, 1) := by decide +kernel
theorem dX5_interrupt_34 : decode cX5_interrupt 34 = .ok (.iconst 4, 1) := by decide +kernel
theorem dX5_interrupt_35 : decode cX5_interrupt 35 = .ok (.invokevirtual 99, 3) := by decide +kernel
theorem dX5_interrupt_38 : decode cX5_interrupt 38 = .ok (.iconst 1, 1) := by decide +kernel
theorem dX5_interrupt_39 : decode cX5_interrupt 39 = .ok (.ireturn, 1) := by decide +kernel
set_option maxRecDepth 20000 in
theorem ggX5_again_X5_find : GoodIn wsX5_again wsX5_find := goodIn_r _ [5, 6, 7, 8, 9, 4, 10, 11, 35, 36, 37, 38, 39] (by decide +kernel) (by decide +kernel)
set_option maxRecDepth 20000 in
theorem gX5_again_X5_find : GoodIn wsX5_again (wsV RX5 52 RX5 yX5_find wsX5_find) := goodIn_app (goodIn_of _ (by decide +kernel)) ggX5_again_X5_find
set_option maxRecDepth 20000 in
theorem ggX5_again_X4_beginAgain : GoodIn wsX5_again wsX4_beginAgain := goodIn_r _ [16, 17, 18, 19, 20, 21, 22, 23, 24, 25, 26, 27, 28, 29, 30, 31, 32, 33, 34] (by decide +kernel) (by decide +kernel)
set_option maxRecDepth 20000 in
theorem gX5_again_X4_beginAgain : GoodIn wsX5_again (wsV RX5 109 RX4 yX4_beginAgain wsX4_beginAgain) := goodIn_app (goodIn_of _ (by decide +kernel)) ggX5_again_X4_beginAgain
theorem dX5_again_0 : decode cX5_again 0 = .ok (.aload_n 0, 1) := by decide +kernel
theorem dX5_again_1 : decode cX5_again 1 = .ok (.iload_n 1, 1) := by decide +kernel
theorem dX5_again_2 : decode cX5_again 2 = .ok (.invokevirtual 52, 3) := by decide +kernel
theorem dX5_again_5 : decode cX5_again 5 = .ok (.astore_n 2, 1) := by decide +kernel
theorem dX5_again_6 : decode cX5_again 6 = .ok (.aload_n 2, 1) := by decide +kernel
theorem dX5_again_7 : decode cX5_again 7 = .ok (.ifnonnull 5, 3) := by decide +kernel
theorem dX5_again_10 : decode cX5_again 10 = .ok (.iconst (-1), 1) := by decide +kernel
theorem dX5_again_11 : decode cX5_again 11 = .ok (.ireturn, 1) := by decide +kernel
theorem dX5_again_12 : decode cX5_again 12 = .ok (.aload_n 2, 1) := by decide +kernel
theorem dX5_again_13 : decode cX5_again 13 = .ok (.getfield 103, 3) := by decide +kernel
theorem dX5_again_16 : decode cX5_again 16 = .ok (.iconst 2, 1) := by decide +kernel
theorem dX5_again_17 : decode cX5_again 17 = .ok (.if_icmp .eq 22, 3) := by decide +kernel
theorem dX5_again_20 : decode cX5_again 20 = .ok (.aload_n 2, 1) := by decide +kernel
theorem dX5_again_21 : decode cX5_again 21 = .ok (.getfield 103, 3) := by decide +kernel
theorem dX5_again_24 : decode cX5_again 24 = .ok (.iconst 3, 1) := by decide +kernel
theorem dX5_again_25 : decode cX5_again 25 = .ok (.if_icmp .eq 14, 3) := by decide +kernel
theorem dX5_again_28 : decode cX5_again 28 = .ok (.aload_n 2, 1) := by decide +kernel
theorem dX5_again_29 : decode cX5_again 29 = .ok (.getfield 103, 3) := by decide +kernel
theorem dX5_again_32 : decode cX5_again 32 = .ok (.iconst 4, 1) := by decide +kernel
theorem dX5_again_33 : decode cX5_again 33 = .ok (.if_icmp .eq 6, 3) := by decide +kernel
theorem dX5_again_36 : decode cX5_again 36 = .ok (.bipush (-3), 2) := by decide +kernel
theorem dX5_again_38 : decode cX5_again 38 = .ok (.ireturn, 1) := by decide +kernel
theorem dX5_again_39 : decode cX5_again 39 = .ok (.aload_n 2, 1) := by decide +kernel
theorem dX5_again_40 : decode cX5_again 40 = .ok (.invokevirtual 109, 3) := by decide +kernel
theorem dX5_again_43 : decode cX5_again 43 = .ok (.aload_n 2, 1) := by decide +kernel
theorem dX5_again_44 : decode cX5_again 44 = .ok (.getfield 112, 3) := by decide +kernel
theorem dX5_again_47 : decode cX5_again 47 = .ok (.ireturn, 1) := by decide +kernel
set_option maxRecDepth 20000 in
theorem ggX5_close_X5_undo : GoodIn wsX5_close wsX5_undo := goodIn_r _ [7, 8, 9, 10, 11, 12, 13, 14, 15, 16, 17, 18, 19, 20, 21, 22, 23, 24, 25, 26, 27, 28, 29, 30, 31, 32, 33, 34, 35, 36, 37, 38, 39, 40, 41, 42, 43, 44, 45, 46, 47, 48, 49, 50, 51, 52, 53, 54, 55, 56, 57, 58, 59, 60, 61] (by decide +kernel) (by decide +kernel)
set_option maxRecDepth 20000 in
theorem gX5_close_X5_undo : GoodIn wsX5_close (wsV RX5 99 RX5 yX5_undo wsX5_undo) := goodIn_app (goodIn_of _ (by decide +kernel)) ggX5_close_X5_undo
theorem dX5_close_0 : decode cX5_close 0 = .ok (.iconst 0, 1) := by decide +kernel
theorem dX5_close_1 : decode cX5_close 1 = .ok (.istore_n 1, 1) := by decide +kernel
theorem dX5_close_2 : decode cX5_close 2 = .ok (.aload_n 0, 1) := by decide +kernel
theorem dX5_close_3 : decode cX5_close 3 = .ok (.getfield 39, 3) := by decide +kernel
theorem dX5_close_6 : decode cX5_close 6 = .ok (.iconst 1, 1) := by decide +kernel
theorem dX5_close_7 : decode cX5_close 7 = .ok (.isub, 1) := by decide +kernel
theorem dX5_close_8 : decode cX5_close 8 = .ok (.istore_n 2, 1) := by decide +kernel
theorem dX5_close_9 : decode cX5_close 9 = .ok (.iload_n 2, 1) := by decide +kernel
theorem dX5_close_10 : decode cX5_close 10 = .ok (.ifCond .lt 35, 3) := by decide +kernel
theorem dX5_close_13 : decode cX5_close 13 = .ok (.aload_n 0, 1) := by decide +kernel
theorem dX5_close_14 : decode cX5_close 14 = .ok (.getfield 11, 3) := by decide +kernel
theorem dX5_close_17 : decode cX5_close 17 = .ok (.iload_n 2, 1) := by decide +kernel
theorem dX5_close_18 : decode cX5_close 18 = .ok (.aaload, 1) := by decide +kernel
theorem dX5_close_19 : decode cX5_close 19 = .ok (.getfield 103, 3) := by decide +kernel
theorem dX5_close_22 : decode cX5_close 22 = .ok (.ifCond .ne 17, 3) := by decide +kernel
theorem dX5_close_25 : decode cX5_close 25 = .ok (.aload_n 0, 1) := by decide +kernel
theorem dX5_close_26 : decode cX5_close 26 = .ok (.aload_n 0, 1) := by decide +kernel
theorem dX5_close_27 : decode cX5_close 27 = .ok (.getfield 11, 3) := by decide +kernel
theorem dX5_close_30 : decode cX5_close 30 = .ok (.iload_n 2, 1) := by decide +kernel
theorem dX5_close_31 : decode cX5_close 31 = .ok (.aaload, 1) := by decide +kernel
theorem dX5_close_32 : decode cX5_close 32 = .ok (.iconst 5, 1) := by decide +kernel
theorem dX5_close_33 : decode cX5_close 33 = .ok (.invokevirtual 99, 3) := by decide +kernel
theorem dX5_close_36 : decode cX5_close 36 = .ok (.iinc 1 1, 3) := by decide +kernel
theorem dX5_close_39 : decode cX5_close 39 = .ok (.iinc 2 (-1), 3) := by decide +kernel
theorem dX5_close_42 : decode cX5_close 42 = .ok (.goto (-33), 3) := by decide +kernel
theorem dX5_close_45 : decode cX5_close 45 = .ok (.iload_n 1, 1) := by decide +kernel
theorem dX5_close_46 : decode cX5_close 46 = .ok (.ireturn, 1) := by decide +kernel
set_option maxRecDepth 20000 in
theorem ggX5_state_X5_find : GoodIn wsX5_state wsX5_find := goodIn_r _ [6, 7, 8, 9, 10, 5, 11, 12, 31, 32, 33, 34, 35] (by decide +kernel) (by decide +kernel)
set_option maxRecDepth 20000 in
theorem gX5_state_X5_find : GoodIn wsX5_state (wsV RX5 52 RX5 yX5_find wsX5_find) := goodIn_app (goodIn_of _ (by decide +kernel)) ggX5_state_X5_find
set_option maxRecDepth 20000 in
theorem ggX5_state_X3_countOf : GoodIn wsX5_state wsX3_countOf := goodIn_r _ [17, 18, 36, 37, 38, 39] (by decide +kernel) (by decide +kernel)
set_option maxRecDepth 20000 in
theorem gX5_state_X3_countOf : GoodIn wsX5_state (wsV RX5 121 RX3 yX3_countOf wsX3_countOf) := goodIn_app (goodIn_of _ (by decide +kernel)) ggX5_state_X3_countOf
theorem dX5_state_0 : decode cX5_state 0 = .ok (.aload_n 0, 1) := by decide +kernel
theorem dX5_state_1 : decode cX5_state 1 = .ok (.iload_n 1, 1) := by decide +kernel
theorem dX5_state_2 : decode cX5_state 2 = .ok (.invokevirtual 52, 3) := by decide +kernel
theorem dX5_state_5 : decode cX5_state 5 = .ok (.astore_n 3, 1) := by decide +kernel
theorem dX5_state_6 : decode cX5_state 6 = .ok (.aload_n 3, 1) := by decide +kernel
theorem dX5_state_7 : decode cX5_state 7 = .ok (.ifnonnull 5, 3) := by decide +kernel
theorem dX5_state_10 : decode cX5_state 10 = .ok (.iconst (-1), 1) := by decide +kernel
theorem dX5_state_11 : decode cX5_state 11 = .ok (.ireturn, 1) := by decide +kernel
theorem dX5_state_12 : decode cX5_state 12 = .ok (.iload_n 2, 1) := by decide +kernel
theorem dX5_state_13 : decode cX5_state 13 = .ok (.tableswitch 67 0 4 #[35, 40, 45, 50, 62], 35) := by decide +kernel
theorem dX5_state_48 : decode cX5_state 48 = .ok (.aload_n 3, 1) := by decide +kernel
theorem dX5_state_49 : decode cX5_state 49 = .ok (.getfield 103, 3) := by decide +kernel
theorem dX5_state_52 : decode cX5_state 52 = .ok (.ireturn, 1) := by decide +kernel
theorem dX5_state_53 : decode cX5_state 53 = .ok (.aload_n 3, 1) := by decide +kernel
theorem dX5_state_54 : decode cX5_state 54 = .ok (.getfield 115, 3) := by decide +kernel
theorem dX5_state_57 : decode cX5_state 57 = .ok (.ireturn, 1) := by decide +kernel
theorem dX5_state_58 : decode cX5_state 58 = .ok (.aload_n 3, 1) := by decide +kernel
theorem dX5_state_59 : decode cX5_state 59 = .ok (.getfield 118, 3) := by decide +kernel
theorem dX5_state_62 : decode cX5_state 62 = .ok (.ireturn, 1) := by decide +kernel
theorem dX5_state_63 : decode cX5_state 63 = .ok (.aload_n 0, 1) := by decide +kernel
theorem dX5_state_64 : decode cX5_state 64 = .ok (.getfield 18, 3) := by decide +kernel
theorem dX5_state_67 : decode cX5_state 67 = .ok (.aload_n 3, 1) := by decide +kernel
theorem dX5_state_68 : decode cX5_state 68 = .ok (.getfield 49, 3) := by decide +kernel
theorem dX5_state_71 : decode cX5_state 71 = .ok (.invokevirtual 121, 3) := by decide +kernel
theorem dX5_state_74 : decode cX5_state 74 = .ok (.ireturn, 1) := by decide +kernel
theorem dX5_state_75 : decode cX5_state 75 = .ok (.aload_n 3, 1) := by decide +kernel
theorem dX5_state_76 : decode cX5_state 76 = .ok (.getfield 124, 3) := by decide +kernel
theorem dX5_state_79 : decode cX5_state 79 = .ok (.ireturn, 1) := by decide +kernel
theorem dX5_state_80 : decode cX5_state 80 = .ok (.iconst (-1), 1) := by decide +kernel
theorem dX5_state_81 : decode cX5_state 81 = .ok (.ireturn, 1) := by decide +kernel
set_option maxRecDepth 20000 in
theorem ggX5_has_X5_isCopy : GoodIn wsX5_has wsX5_isCopy := goodIn_r _ [5] (by decide +kernel) (by decide +kernel)
set_option maxRecDepth 20000 in
theorem gX5_has_X5_isCopy : GoodIn wsX5_has (va_wsS RX5 64 yX5_isCopy wsX5_isCopy) := goodIn_app (goodIn_of _ (by decide +kernel)) ggX5_has_X5_isCopy
theorem dX5_has_0 : decode cX5_has 0 = .ok (.iload_n 1, 1) := by decide +kernel
theorem dX5_has_1 : decode cX5_has 1 = .ok (.invokestatic 64, 3) := by decide +kernel
theorem dX5_has_4 : decode cX5_has 4 = .ok (.ifCond .eq 15, 3) := by decide +kernel
theorem dX5_has_7 : decode cX5_has 7 = .ok (.aload_n 0, 1) := by decide +kernel
theorem dX5_has_8 : decode cX5_has 8 = .ok (.getfield 18, 3) := by decide +kernel
theorem dX5_has_11 : decode cX5_has 11 = .ok (.getfield 127, 3) := by decide +kernel
theorem dX5_has_14 : decode cX5_has 14 = .ok (.iload_n 1, 1) := by decide +kernel
theorem dX5_has_15 : decode cX5_has 15 = .ok (.iaload, 1) := by decide +kernel
theorem dX5_has_16 : decode cX5_has 16 = .ok (.goto 4, 3) := by decide +kernel
theorem dX5_has_19 : decode cX5_has 19 = .ok (.iconst (-1), 1) := by decide +kernel
theorem dX5_has_20 : decode cX5_has 20 = .ok (.ireturn, 1) := by decide +kernel
set_option maxRecDepth 20000 in
theorem ggX5_line_X2_item : GoodIn wsX5_line wsX2_item := goodIn_r _ [6, 7, 8, 9, 10, 11, 5, 12, 13, 23, 24, 25] (by decide +kernel) (by decide +kernel)
set_option maxRecDepth 20000 in
theorem gX5_line_X2_item : GoodIn wsX5_line (wsV RX5 134 RX2 yX2_item wsX2_item) := goodIn_app (goodIn_of _ (by decide +kernel)) ggX5_line_X2_item
theorem dX5_line_0 : decode cX5_line 0 = .ok (.aload_n 0, 1) := by decide +kernel
theorem dX5_line_1 : decode cX5_line 1 = .ok (.getfield 18, 3) := by decide +kernel
theorem dX5_line_4 : decode cX5_line 4 = .ok (.getfield 131, 3) := by decide +kernel
theorem dX5_line_7 : decode cX5_line 7 = .ok (.iload_n 1, 1) := by decide +kernel
theorem dX5_line_8 : decode cX5_line 8 = .ok (.iload_n 2, 1) := by decide +kernel
theorem dX5_line_9 : decode cX5_line 9 = .ok (.invokevirtual 134, 3) := by decide +kernel
theorem dX5_line_12 : decode cX5_line 12 = .ok (.ireturn, 1) := by decide +kernel
set_option maxRecDepth 20000 in
theorem ggX5_value_X5_isCopy : GoodIn wsX5_value wsX5_isCopy := goodIn_r _ [7] (by decide +kernel) (by decide +kernel)
set_option maxRecDepth 20000 in
theorem gX5_value_X5_isCopy : GoodIn wsX5_value (va_wsS RX5 64 yX5_isCopy wsX5_isCopy) := goodIn_app (goodIn_of _ (by decide +kernel)) ggX5_value_X5_isCopy
theorem dX5_value_0 : decode cX5_value 0 = .ok (.iload_n 1, 1) := by decide +kernel
theorem dX5_value_1 : decode cX5_value 1 = .ok (.invokestatic 64, 3) := by decide +kernel
theorem dX5_value_4 : decode cX5_value 4 = .ok (.ifCond .ne 13, 3) := by decide +kernel
theorem dX5_value_7 : decode cX5_value 7 = .ok (.new 137, 3) := by decide +kernel
theorem dX5_value_10 : decode cX5_value 10 = .ok (.dup, 1) := by decide +kernel
theorem dX5_value_11 : decode cX5_value 11 = .ok (.ldc 139, 2) := by decide +kernel
theorem dX5_value_13 : decode cX5_value 13 = .ok (.invokespecial 141, 3) := by decide +kernel
theorem dX5_value_16 : decode cX5_value 16 = .ok (.athrow, 1) := by decide +kernel
theorem dX5_value_17 : decode cX5_value 17 = .ok (.aload_n 0, 1) := by decide +kernel
theorem dX5_value_18 : decode cX5_value 18 = .ok (.getfield 18, 3) := by decide +kernel
theorem dX5_value_21 : decode cX5_value 21 = .ok (.getfield 144, 3) := by decide +kernel
theorem dX5_value_24 : decode cX5_value 24 = .ok (.iload_n 1, 1) := by decide +kernel
theorem dX5_value_25 : decode cX5_value 25 = .ok (.iaload, 1) := by decide +kernel
theorem dX5_value_26 : decode cX5_value 26 = .ok (.ireturn, 1) := by decide +kernel
set_option maxRecDepth 20000 in
theorem ggX5_log_X2_item : GoodIn wsX5_log wsX2_item := goodIn_r _ [6, 7, 8, 9, 10, 11, 5, 12, 13, 20, 21, 22] (by decide +kernel) (by decide +kernel)
set_option maxRecDepth 20000 in
theorem gX5_log_X2_item : GoodIn wsX5_log (wsV RX5 134 RX2 yX2_item wsX2_item) := goodIn_app (goodIn_of _ (by decide +kernel)) ggX5_log_X2_item
theorem dX5_log_0 : decode cX5_log 0 = .ok (.aload_n 0, 1) := by decide +kernel
theorem dX5_log_1 : decode cX5_log 1 = .ok (.getfield 32, 3) := by decide +kernel
theorem dX5_log_4 : decode cX5_log 4 = .ok (.getfield 147, 3) := by decide +kernel
theorem dX5_log_7 : decode cX5_log 7 = .ok (.iconst 0, 1) := by decide +kernel
theorem dX5_log_8 : decode cX5_log 8 = .ok (.iload_n 1, 1) := by decide +kernel
theorem dX5_log_9 : decode cX5_log 9 = .ok (.invokevirtual 134, 3) := by decide +kernel
theorem dX5_log_12 : decode cX5_log 12 = .ok (.ireturn, 1) := by decide +kernel
set_option maxRecDepth 20000 in
theorem ggX5_mail_X5_find : GoodIn wsX5_mail wsX5_find := goodIn_r _ [6, 7, 8, 9, 10, 5, 11, 12, 31, 32, 33, 34, 35] (by decide +kernel) (by decide +kernel)
set_option maxRecDepth 20000 in
theorem gX5_mail_X5_find : GoodIn wsX5_mail (wsV RX5 52 RX5 yX5_find wsX5_find) := goodIn_app (goodIn_of _ (by decide +kernel)) ggX5_mail_X5_find
set_option maxRecDepth 20000 in
theorem ggX5_mail_X5_isOther : GoodIn wsX5_mail wsX5_isOther := goodIn_r _ [16, 8, 9, 10, 5, 11, 12, 31, 32, 33, 34, 35] (by decide +kernel) (by decide +kernel)
set_option maxRecDepth 20000 in
theorem gX5_mail_X5_isOther : GoodIn wsX5_mail (wsV RX5 60 RX5 yX5_isOther wsX5_isOther) := goodIn_app (goodIn_of _ (by decide +kernel)) ggX5_mail_X5_isOther
set_option maxRecDepth 20000 in
theorem ggX5_mail_X1_way : GoodIn wsX5_mail wsX1_way := goodIn_r _ [20] (by decide +kernel) (by decide +kernel)
set_option maxRecDepth 20000 in
theorem gX5_mail_X1_way : GoodIn wsX5_mail (va_wsS RX5 148 yX1_way wsX1_way) := goodIn_app (goodIn_of _ (by decide +kernel)) ggX5_mail_X1_way
set_option maxRecDepth 20000 in
theorem ggX5_mail_X1_countThere : GoodIn wsX5_mail wsX1_countThere := goodIn_r _ [24, 25, 26, 27, 28, 19, 29, 30, 36, 37, 38] (by decide +kernel) (by decide +kernel)
set_option maxRecDepth 20000 in
theorem gX5_mail_X1_countThere : GoodIn wsX5_mail (wsV RX5 151 RX1 yX1_countThere wsX1_countThere) := goodIn_app (goodIn_of _ (by decide +kernel)) ggX5_mail_X1_countThere
theorem dX5_mail_0 : decode cX5_mail 0 = .ok (.aload_n 0, 1) := by decide +kernel
theorem dX5_mail_1 : decode cX5_mail 1 = .ok (.iload_n 1, 1) := by decide +kernel
theorem dX5_mail_2 : decode cX5_mail 2 = .ok (.invokevirtual 52, 3) := by decide +kernel
theorem dX5_mail_5 : decode cX5_mail 5 = .ok (.ifnull 12, 3) := by decide +kernel
theorem dX5_mail_8 : decode cX5_mail 8 = .ok (.aload_n 0, 1) := by decide +kernel
theorem dX5_mail_9 : decode cX5_mail 9 = .ok (.iload_n 1, 1) := by decide +kernel
theorem dX5_mail_10 : decode cX5_mail 10 = .ok (.iload_n 2, 1) := by decide +kernel
theorem dX5_mail_11 : decode cX5_mail 11 = .ok (.invokevirtual 60, 3) := by decide +kernel
theorem dX5_mail_14 : decode cX5_mail 14 = .ok (.ifCond .ne 6, 3) := by decide +kernel
theorem dX5_mail_17 : decode cX5_mail 17 = .ok (.bipush (-2), 2) := by decide +kernel
theorem dX5_mail_19 : decode cX5_mail 19 = .ok (.ireturn, 1) := by decide +kernel
theorem dX5_mail_20 : decode cX5_mail 20 = .ok (.aload_n 0, 1) := by decide +kernel
theorem dX5_mail_21 : decode cX5_mail 21 = .ok (.getfield 25, 3) := by decide +kernel
theorem dX5_mail_24 : decode cX5_mail 24 = .ok (.iload_n 1, 1) := by decide +kernel
theorem dX5_mail_25 : decode cX5_mail 25 = .ok (.iload_n 2, 1) := by decide +kernel
theorem dX5_mail_26 : decode cX5_mail 26 = .ok (.invokestatic 148, 3) := by decide +kernel
theorem dX5_mail_29 : decode cX5_mail 29 = .ok (.invokevirtual 151, 3) := by decide +kernel
theorem dX5_mail_32 : decode cX5_mail 32 = .ok (.ireturn, 1) := by decide +kernel
set_option maxRecDepth 20000 in
theorem ggX5_find_X5_isWork : GoodIn wsX5_find wsX5_isWork := goodIn_r _ [6, 7, 8, 9, 10, 11, 12] (by decide +kernel) (by decide +kernel)
set_option maxRecDepth 20000 in
theorem gX5_find_X5_isWork : GoodIn wsX5_find (wsV RX5 154 RX5 yX5_isWork wsX5_isWork) := goodIn_app (goodIn_of _ (by decide +kernel)) ggX5_find_X5_isWork
theorem dX5_find_0 : decode cX5_find 0 = .ok (.aload_n 0, 1) := by decide +kernel
theorem dX5_find_1 : decode cX5_find 1 = .ok (.iload_n 1, 1) := by decide +kernel
theorem dX5_find_2 : decode cX5_find 2 = .ok (.invokevirtual 154, 3) := by decide +kernel
theorem dX5_find_5 : decode cX5_find 5 = .ok (.ifCond .eq 12, 3) := by decide +kernel
theorem dX5_find_8 : decode cX5_find 8 = .ok (.aload_n 0, 1) := by decide +kernel
theorem dX5_find_9 : decode cX5_find 9 = .ok (.getfield 11, 3) := by decide +kernel
theorem dX5_find_12 : decode cX5_find 12 = .ok (.iload_n 1, 1) := by decide +kernel
theorem dX5_find_13 : decode cX5_find 13 = .ok (.aaload, 1) := by decide +kernel
theorem dX5_find_14 : decode cX5_find 14 = .ok (.goto 4, 3) := by decide +kernel
theorem dX5_find_17 : decode cX5_find 17 = .ok (.aconst_null, 1) := by decide +kernel
theorem dX5_find_18 : decode cX5_find 18 = .ok (.areturn, 1) := by decide +kernel
theorem dX5_isWork_0 : decode cX5_isWork 0 = .ok (.iload_n 1, 1) := by decide +kernel
theorem dX5_isWork_1 : decode cX5_isWork 1 = .ok (.ifCond .lt 15, 3) := by decide +kernel
theorem dX5_isWork_4 : decode cX5_isWork 4 = .ok (.iload_n 1, 1) := by decide +kernel
theorem dX5_isWork_5 : decode cX5_isWork 5 = .ok (.aload_n 0, 1) := by decide +kernel
theorem dX5_isWork_6 : decode cX5_isWork 6 = .ok (.getfield 39, 3) := by decide +kernel
theorem dX5_isWork_9 : decode cX5_isWork 9 = .ok (.if_icmp .ge 7, 3) := by decide +kernel
theorem dX5_isWork_12 : decode cX5_isWork 12 = .ok (.iconst 1, 1) := by decide +kernel
theorem dX5_isWork_13 : decode cX5_isWork 13 = .ok (.goto 4, 3) := by decide +kernel
theorem dX5_isWork_16 : decode cX5_isWork 16 = .ok (.iconst 0, 1) := by decide +kernel
theorem dX5_isWork_17 : decode cX5_isWork 17 = .ok (.ireturn, 1) := by decide +kernel
set_option maxRecDepth 20000 in
theorem ggX5_isOther_X5_isWork : GoodIn wsX5_isOther wsX5_isWork := goodIn_r _ [5, 6, 7, 8, 9, 10, 11] (by decide +kernel) (by decide +kernel)
set_option maxRecDepth 20000 in
theorem gX5_isOther_X5_isWork : GoodIn wsX5_isOther (wsV RX5 154 RX5 yX5_isWork wsX5_isWork) := goodIn_app (goodIn_of _ (by decide +kernel)) ggX5_isOther_X5_isWork
theorem dX5_isOther_0 : decode cX5_isOther 0 = .ok (.aload_n 0, 1) := by decide +kernel
theorem dX5_isOther_1 : decode cX5_isOther 1 = .ok (.iload_n 2, 1) := by decide +kernel
theorem dX5_isOther_2 : decode cX5_isOther 2 = .ok (.invokevirtual 154, 3) := by decide +kernel
theorem dX5_isOther_5 : decode cX5_isOther 5 = .ok (.ifCond .eq 12, 3) := by decide +kernel
theorem dX5_isOther_8 : decode cX5_isOther 8 = .ok (.iload_n 2, 1) := by decide +kernel
theorem dX5_isOther_9 : decode cX5_isOther 9 = .ok (.iload_n 1, 1) := by decide +kernel
theorem dX5_isOther_10 : decode cX5_isOther 10 = .ok (.if_icmp .eq 7, 3) := by decide +kernel
theorem dX5_isOther_13 : decode cX5_isOther 13 = .ok (.iconst 1, 1) := by decide +kernel
theorem dX5_isOther_14 : decode cX5_isOther 14 = .ok (.goto 4, 3) := by decide +kernel
theorem dX5_isOther_17 : decode cX5_isOther 17 = .ok (.iconst 0, 1) := by decide +kernel
theorem dX5_isOther_18 : decode cX5_isOther 18 = .ok (.ireturn, 1) := by decide +kernel
theorem dX5_isCopy_0 : decode cX5_isCopy 0 = .ok (.iload_n 0, 1) := by decide +kernel
theorem dX5_isCopy_1 : decode cX5_isCopy 1 = .ok (.ifCond .lt 13, 3) := by decide +kernel
theorem dX5_isCopy_4 : decode cX5_isCopy 4 = .ok (.iload_n 0, 1) := by decide +kernel
theorem dX5_isCopy_5 : decode cX5_isCopy 5 = .ok (.bipush 10, 2) := by decide +kernel
theorem dX5_isCopy_7 : decode cX5_isCopy 7 = .ok (.if_icmp .ge 7, 3) := by decide +kernel
theorem dX5_isCopy_10 : decode cX5_isCopy 10 = .ok (.iconst 1, 1) := by decide +kernel
theorem dX5_isCopy_11 : decode cX5_isCopy 11 = .ok (.goto 4, 3) := by decide +kernel
theorem dX5_isCopy_14 : decode cX5_isCopy 14 = .ok (.iconst 0, 1) := by decide +kernel
theorem dX5_isCopy_15 : decode cX5_isCopy 15 = .ok (.ireturn, 1) := by decide +kernel
theorem dX5_isWaiting_0 : decode cX5_isWaiting 0 = .ok (.iload_n 0, 1) := by decide +kernel
theorem dX5_isWaiting_1 : decode cX5_isWaiting 1 = .ok (.iconst 3, 1) := by decide +kernel
theorem dX5_isWaiting_2 : decode cX5_isWaiting 2 = .ok (.if_icmp .eq 8, 3) := by decide +kernel
theorem dX5_isWaiting_5 : decode cX5_isWaiting 5 = .ok (.iload_n 0, 1) := by decide +kernel
theorem dX5_isWaiting_6 : decode cX5_isWaiting 6 = .ok (.iconst 4, 1) := by decide +kernel
theorem dX5_isWaiting_7 : decode cX5_isWaiting 7 = .ok (.if_icmp .ne 7, 3) := by decide +kernel
theorem dX5_isWaiting_10 : decode cX5_isWaiting 10 = .ok (.iconst 1, 1) := by decide +kernel
theorem dX5_isWaiting_11 : decode cX5_isWaiting 11 = .ok (.goto 4, 3) := by decide +kernel
theorem dX5_isWaiting_14 : decode cX5_isWaiting 14 = .ok (.iconst 0, 1) := by decide +kernel
theorem dX5_isWaiting_15 : decode cX5_isWaiting 15 = .ok (.ireturn, 1) := by decide +kernel
set_option maxRecDepth 20000 in
theorem ggX5_takeTurn_X4_gotAll : GoodIn wsX5_takeTurn wsX4_gotAll := goodIn_r _ [5, 6, 7, 8, 9, 10, 11, 12, 13, 14, 127, 128, 129, 130, 131, 132, 133, 134, 135, 136, 137, 138, 139, 140, 141] (by decide +kernel) (by decide +kernel)
set_option maxRecDepth 20000 in
theorem gX5_takeTurn_X4_gotAll : GoodIn wsX5_takeTurn (wsV RX5 157 RX4 yX4_gotAll wsX4_gotAll) := goodIn_app (goodIn_of _ (by decide +kernel)) ggX5_takeTurn_X4_gotAll
set_option maxRecDepth 20000 in
theorem ggX5_takeTurn_X5_actOrFail : GoodIn wsX5_takeTurn wsX5_actOrFail := goodIn_r _ [19, 20, 21, 22, 23, 24, 18, 25, 26, 27, 28, 29, 30, 31, 32, 33, 34, 35, 36, 37, 38, 39, 40, 41, 12, 42, 14, 43, 44, 45, 46, 47, 48, 49, 10, 11, 13, 50, 51, 52, 53, 54, 55, 56, 57, 58, 59, 60, 61, 62, 63, 64, 65, 66, 67, 68, 69, 70, 71, 72, 73, 74, 75, 76, 77, 78, 79, 80, 81, 82, 83, 84, 85, 86, 87, 88, 127, 128, 129, 130, 131, 132, 133, 134, 135, 136, 137, 138, 142, 143, 144, 145, 146, 147, 148, 149, 150, 139, 140, 141, 151, 152, 153, 154] (by decide +kernel) (by decide +kernel)
set_option maxRecDepth 20000 in
theorem gX5_takeTurn_X5_actOrFail : GoodIn wsX5_takeTurn (wsV RX5 161 RX5 yX5_actOrFail wsX5_actOrFail) := goodIn_app (goodIn_of _ (by decide +kernel)) ggX5_takeTurn_X5_actOrFail
set_option maxRecDepth 20000 in
theorem ggX5_takeTurn_X5_goForNext : GoodIn wsX5_takeTurn wsX5_goForNext := goodIn_r _ [92, 70, 71, 72, 12, 73, 43, 44, 49, 10, 11, 13, 14, 93, 94, 18, 95, 96, 97, 98, 99, 20, 100, 101, 102, 29, 103, 38, 31, 104, 105, 106, 107, 108, 33, 32, 39, 40, 41, 42, 45, 46, 47, 48, 109, 110, 111, 112, 113, 114, 61, 62, 63, 115, 116, 117, 118, 68, 74, 75, 76, 77, 119, 120, 121, 122, 84, 85, 86, 87, 88, 83, 123, 124, 125, 126, 127, 128, 129, 130, 131, 132, 133, 134, 135, 136, 137, 138, 139, 140, 141, 142, 143, 144, 145, 146, 147, 148, 149, 150, 152, 153, 154] (by decide +kernel) (by decide +kernel)
set_option maxRecDepth 20000 in
theorem gX5_takeTurn_X5_goForNext : GoodIn wsX5_takeTurn (wsV RX5 164 RX5 yX5_goForNext wsX5_goForNext) := goodIn_app (goodIn_of _ (by decide +kernel)) ggX5_takeTurn_X5_goForNext
theorem dX5_takeTurn_0 : decode cX5_takeTurn 0 = .ok (.aload_n 1, 1) := by decide +kernel
theorem dX5_takeTurn_1 : decode cX5_takeTurn 1 = .ok (.getfield 103, 3) := by decide +kernel
theorem dX5_takeTurn_4 : decode cX5_takeTurn 4 = .ok (.ifCond .eq 5, 3) := by decide +kernel
theorem dX5_takeTurn_7 : decode cX5_takeTurn 7 = .ok (.iconst 0, 1) := by decide +kernel
theorem dX5_takeTurn_8 : decode cX5_takeTurn 8 = .ok (.ireturn, 1) := by decide +kernel
theorem dX5_takeTurn_9 : decode cX5_takeTurn 9 = .ok (.aload_n 1, 1) := by decide +kernel
theorem dX5_takeTurn_10 : decode cX5_takeTurn 10 = .ok (.iconst 1, 1) := by decide +kernel
theorem dX5_takeTurn_11 : decode cX5_takeTurn 11 = .ok (.putfield 67, 3) := by decide +kernel
theorem dX5_takeTurn_14 : decode cX5_takeTurn 14 = .ok (.aload_n 1, 1) := by decide +kernel
theorem dX5_takeTurn_15 : decode cX5_takeTurn 15 = .ok (.aload_n 1, 1) := by decide +kernel
theorem dX5_takeTurn_16 : decode cX5_takeTurn 16 = .ok (.invokevirtual 157, 3) := by decide +kernel
theorem dX5_takeTurn_19 : decode cX5_takeTurn 19 = .ok (.ifCond .eq 11, 3) := by decide +kernel
theorem dX5_takeTurn_22 : decode cX5_takeTurn 22 = .ok (.aload_n 0, 1) := by decide +kernel
theorem dX5_takeTurn_23 : decode cX5_takeTurn 23 = .ok (.aload_n 1, 1) := by decide +kernel
theorem dX5_takeTurn_24 : decode cX5_takeTurn 24 = .ok (.invokevirtual 161, 3) := by decide +kernel
theorem dX5_takeTurn_27 : decode cX5_takeTurn 27 = .ok (.goto 8, 3) := by decide +kernel
theorem dX5_takeTurn_30 : decode cX5_takeTurn 30 = .ok (.aload_n 0, 1) := by decide +kernel
theorem dX5_takeTurn_31 : decode cX5_takeTurn 31 = .ok (.aload_n 1, 1) := by decide +kernel
theorem dX5_takeTurn_32 : decode cX5_takeTurn 32 = .ok (.invokevirtual 164, 3) := by decide +kernel
theorem dX5_takeTurn_35 : decode cX5_takeTurn 35 = .ok (.putfield 106, 3) := by decide +kernel
theorem dX5_takeTurn_38 : decode cX5_takeTurn 38 = .ok (.aload_n 1, 1) := by decide +kernel
theorem dX5_takeTurn_39 : decode cX5_takeTurn 39 = .ok (.getfield 106, 3) := by decide +kernel
theorem dX5_takeTurn_42 : decode cX5_takeTurn 42 = .ok (.ireturn, 1) := by decide +kernel
set_option maxRecDepth 20000 in
theorem ggX5_goForNext_X2_item : GoodIn wsX5_goForNext wsX2_item := goodIn_r _ [5, 6, 7, 8, 9, 10, 4, 11, 12, 88, 89, 90] (by decide +kernel) (by decide +kernel)
set_option maxRecDepth 20000 in
theorem gX5_goForNext_X2_item : GoodIn wsX5_goForNext (wsV RX5 134 RX2 yX2_item wsX2_item) := goodIn_app (goodIn_of _ (by decide +kernel)) ggX5_goForNext_X2_item
set_option maxRecDepth 20000 in
theorem ggX5_goForNext_X5_isCopy : GoodIn wsX5_goForNext wsX5_isCopy := goodIn_r _ [16] (by decide +kernel) (by decide +kernel)
set_option maxRecDepth 20000 in
theorem gX5_goForNext_X5_isCopy : GoodIn wsX5_goForNext (va_wsS RX5 64 yX5_isCopy wsX5_isCopy) := goodIn_app (goodIn_of _ (by decide +kernel)) ggX5_goForNext_X5_isCopy
set_option maxRecDepth 20000 in
theorem ggX5_goForNext_X5_goForCopy : GoodIn wsX5_goForNext wsX5_goForCopy := goodIn_r _ [20, 21, 22, 23, 24, 25, 26, 27, 28, 29, 2, 3, 4, 5, 6, 7, 8, 9, 10, 11, 12, 30, 31, 32, 33, 34, 35, 36, 37, 38, 39, 40, 41, 42, 43, 44, 45, 46, 47, 48, 49, 50, 51, 52, 91, 92, 93, 94, 95, 96, 97, 98, 99, 76, 77, 78, 79, 80, 81, 82, 83, 84, 85, 86, 87, 88, 89, 90] (by decide +kernel) (by decide +kernel)
set_option maxRecDepth 20000 in
theorem gX5_goForNext_X5_goForCopy : GoodIn wsX5_goForNext (wsV RX5 167 RX5 yX5_goForCopy wsX5_goForCopy) := goodIn_app (goodIn_of _ (by decide +kernel)) ggX5_goForNext_X5_goForCopy
set_option maxRecDepth 20000 in
theorem ggX5_goForNext_X5_goForMessage : GoodIn wsX5_goForNext wsX5_goForMessage := goodIn_r _ [56, 57, 58, 59, 60, 61, 62, 63, 64, 65, 66, 67, 68, 69, 70, 71, 72, 73, 74, 75, 76, 77, 78, 79, 80, 81, 82, 83, 84, 85, 86, 87, 91, 92, 93, 94, 95, 100, 101, 102] (by decide +kernel) (by decide +kernel)
set_option maxRecDepth 20000 in
theorem gX5_goForNext_X5_goForMessage : GoodIn wsX5_goForNext (wsV RX5 171 RX5 yX5_goForMessage wsX5_goForMessage) := goodIn_app (goodIn_of _ (by decide +kernel)) ggX5_goForNext_X5_goForMessage
theorem dX5_goForNext_0 : decode cX5_goForNext 0 = .ok (.aload_n 1, 1) := by decide +kernel
theorem dX5_goForNext_1 : decode cX5_goForNext 1 = .ok (.getfield 71, 3) := by decide +kernel
theorem dX5_goForNext_4 : decode cX5_goForNext 4 = .ok (.aload_n 1, 1) := by decide +kernel
theorem dX5_goForNext_5 : decode cX5_goForNext 5 = .ok (.getfield 115, 3) := by decide +kernel
theorem dX5_goForNext_8 : decode cX5_goForNext 8 = .ok (.aload_n 1, 1) := by decide +kernel
theorem dX5_goForNext_9 : decode cX5_goForNext 9 = .ok (.getfield 118, 3) := by decide +kernel
theorem dX5_goForNext_12 : decode cX5_goForNext 12 = .ok (.invokevirtual 134, 3) := by decide +kernel
theorem dX5_goForNext_15 : decode cX5_goForNext 15 = .ok (.istore_n 2, 1) := by decide +kernel
theorem dX5_goForNext_16 : decode cX5_goForNext 16 = .ok (.iload_n 2, 1) := by decide +kernel
theorem dX5_goForNext_17 : decode cX5_goForNext 17 = .ok (.invokestatic 64, 3) := by decide +kernel
theorem dX5_goForNext_20 : decode cX5_goForNext 20 = .ok (.ifCond .eq 12, 3) := by decide +kernel
theorem dX5_goForNext_23 : decode cX5_goForNext 23 = .ok (.aload_n 0, 1) := by decide +kernel
theorem dX5_goForNext_24 : decode cX5_goForNext 24 = .ok (.aload_n 1, 1) := by decide +kernel
theorem dX5_goForNext_25 : decode cX5_goForNext 25 = .ok (.iload_n 2, 1) := by decide +kernel
theorem dX5_goForNext_26 : decode cX5_goForNext 26 = .ok (.invokevirtual 167, 3) := by decide +kernel
theorem dX5_goForNext_29 : decode cX5_goForNext 29 = .ok (.goto 12, 3) := by decide +kernel
theorem dX5_goForNext_32 : decode cX5_goForNext 32 = .ok (.aload_n 0, 1) := by decide +kernel
theorem dX5_goForNext_33 : decode cX5_goForNext 33 = .ok (.aload_n 1, 1) := by decide +kernel
theorem dX5_goForNext_34 : decode cX5_goForNext 34 = .ok (.iload_n 2, 1) := by decide +kernel
theorem dX5_goForNext_35 : decode cX5_goForNext 35 = .ok (.bipush 10, 2) := by decide +kernel
theorem dX5_goForNext_37 : decode cX5_goForNext 37 = .ok (.isub, 1) := by decide +kernel
theorem dX5_goForNext_38 : decode cX5_goForNext 38 = .ok (.invokevirtual 171, 3) := by decide +kernel
theorem dX5_goForNext_41 : decode cX5_goForNext 41 = .ok (.istore_n 3, 1) := by decide +kernel
theorem dX5_goForNext_42 : decode cX5_goForNext 42 = .ok (.iload_n 3, 1) := by decide +kernel
theorem dX5_goForNext_43 : decode cX5_goForNext 43 = .ok (.iconst 1, 1) := by decide +kernel
theorem dX5_goForNext_44 : decode cX5_goForNext 44 = .ok (.if_icmp .ne 13, 3) := by decide +kernel
theorem dX5_goForNext_47 : decode cX5_goForNext 47 = .ok (.aload_n 1, 1) := by decide +kernel
theorem dX5_goForNext_48 : decode cX5_goForNext 48 = .ok (.dup, 1) := by decide +kernel
theorem dX5_goForNext_49 : decode cX5_goForNext 49 = .ok (.getfield 118, 3) := by decide +kernel
theorem dX5_goForNext_52 : decode cX5_goForNext 52 = .ok (.iconst 1, 1) := by decide +kernel
theorem dX5_goForNext_53 : decode cX5_goForNext 53 = .ok (.iadd, 1) := by decide +kernel
theorem dX5_goForNext_54 : decode cX5_goForNext 54 = .ok (.putfield 118, 3) := by decide +kernel
theorem dX5_goForNext_57 : decode cX5_goForNext 57 = .ok (.iload_n 3, 1) := by decide +kernel
theorem dX5_goForNext_58 : decode cX5_goForNext 58 = .ok (.ireturn, 1) := by decide +kernel
set_option maxRecDepth 20000 in
theorem ggX5_goForCopy_X3_isFreeFor : GoodIn wsX5_goForCopy wsX3_isFreeFor := goodIn_r _ [6, 7, 8, 9, 10, 11, 12, 13, 14, 15, 16, 17, 18, 19, 20, 49, 50, 51, 52, 65, 66, 67] (by decide +kernel) (by decide +kernel)
set_option maxRecDepth 20000 in
theorem gX5_goForCopy_X3_isFreeFor : GoodIn wsX5_goForCopy (wsV RX5 174 RX3 yX3_isFreeFor wsX3_isFreeFor) := goodIn_app (goodIn_of _ (by decide +kernel)) ggX5_goForCopy_X3_isFreeFor
set_option maxRecDepth 20000 in
theorem ggX5_goForCopy_X3_take : GoodIn wsX5_goForCopy wsX3_take := goodIn_r _ [24, 7, 8, 25, 26, 27, 28, 29, 12, 30, 20, 14, 15, 31, 32, 33, 34, 16, 17, 18, 19, 49, 50, 51, 52, 65, 66, 67] (by decide +kernel) (by decide +kernel)
set_option maxRecDepth 20000 in
theorem gX5_goForCopy_X3_take : GoodIn wsX5_goForCopy (wsV RX5 177 RX3 yX3_take wsX3_take) := goodIn_app (goodIn_of _ (by decide +kernel)) ggX5_goForCopy_X3_take
set_option maxRecDepth 20000 in
theorem ggX5_goForCopy_X3_standInLine : GoodIn wsX5_goForCopy wsX3_standInLine := goodIn_r _ [38, 7, 39, 32, 33, 12, 34, 14, 15, 16, 17, 18, 19, 20, 40, 41, 42, 43, 49, 50, 51, 52, 65, 66, 67] (by decide +kernel) (by decide +kernel)
set_option maxRecDepth 20000 in
theorem gX5_goForCopy_X3_standInLine : GoodIn wsX5_goForCopy (wsV RX5 181 RX3 yX3_standInLine wsX3_standInLine) := goodIn_app (goodIn_of _ (by decide +kernel)) ggX5_goForCopy_X3_standInLine
theorem dX5_goForCopy_0 : decode cX5_goForCopy 0 = .ok (.aload_n 0, 1) := by decide +kernel
theorem dX5_goForCopy_1 : decode cX5_goForCopy 1 = .ok (.getfield 18, 3) := by decide +kernel
theorem dX5_goForCopy_4 : decode cX5_goForCopy 4 = .ok (.getfield 127, 3) := by decide +kernel
theorem dX5_goForCopy_7 : decode cX5_goForCopy 7 = .ok (.iload_n 2, 1) := by decide +kernel
theorem dX5_goForCopy_8 : decode cX5_goForCopy 8 = .ok (.iaload, 1) := by decide +kernel
theorem dX5_goForCopy_9 : decode cX5_goForCopy 9 = .ok (.aload_n 1, 1) := by decide +kernel
theorem dX5_goForCopy_10 : decode cX5_goForCopy 10 = .ok (.getfield 49, 3) := by decide +kernel
theorem dX5_goForCopy_13 : decode cX5_goForCopy 13 = .ok (.if_icmp .ne 5, 3) := by decide +kernel
theorem dX5_goForCopy_16 : decode cX5_goForCopy 16 = .ok (.iconst 1, 1) := by decide +kernel
theorem dX5_goForCopy_17 : decode cX5_goForCopy 17 = .ok (.ireturn, 1) := by decide +kernel
theorem dX5_goForCopy_18 : decode cX5_goForCopy 18 = .ok (.aload_n 0, 1) := by decide +kernel
theorem dX5_goForCopy_19 : decode cX5_goForCopy 19 = .ok (.getfield 18, 3) := by decide +kernel
theorem dX5_goForCopy_22 : decode cX5_goForCopy 22 = .ok (.iload_n 2, 1) := by decide +kernel
theorem dX5_goForCopy_23 : decode cX5_goForCopy 23 = .ok (.aload_n 1, 1) := by decide +kernel
theorem dX5_goForCopy_24 : decode cX5_goForCopy 24 = .ok (.getfield 49, 3) := by decide +kernel
theorem dX5_goForCopy_27 : decode cX5_goForCopy 27 = .ok (.invokevirtual 174, 3) := by decide +kernel
theorem dX5_goForCopy_30 : decode cX5_goForCopy 30 = .ok (.ifCond .eq 17, 3) := by decide +kernel
theorem dX5_goForCopy_33 : decode cX5_goForCopy 33 = .ok (.aload_n 0, 1) := by decide +kernel
theorem dX5_goForCopy_34 : decode cX5_goForCopy 34 = .ok (.getfield 18, 3) := by decide +kernel
theorem dX5_goForCopy_37 : decode cX5_goForCopy 37 = .ok (.iload_n 2, 1) := by decide +kernel
theorem dX5_goForCopy_38 : decode cX5_goForCopy 38 = .ok (.aload_n 1, 1) := by decide +kernel
theorem dX5_goForCopy_39 : decode cX5_goForCopy 39 = .ok (.getfield 49, 3) := by decide +kernel
theorem dX5_goForCopy_42 : decode cX5_goForCopy 42 = .ok (.invokevirtual 177, 3) := by decide +kernel
theorem dX5_goForCopy_45 : decode cX5_goForCopy 45 = .ok (.iconst 1, 1) := by decide +kernel
theorem dX5_goForCopy_46 : decode cX5_goForCopy 46 = .ok (.ireturn, 1) := by decide +kernel
theorem dX5_goForCopy_47 : decode cX5_goForCopy 47 = .ok (.aload_n 0, 1) := by decide +kernel
theorem dX5_goForCopy_48 : decode cX5_goForCopy 48 = .ok (.getfield 18, 3) := by decide +kernel
theorem dX5_goForCopy_51 : decode cX5_goForCopy 51 = .ok (.iload_n 2, 1) := by decide +kernel
theorem dX5_goForCopy_52 : decode cX5_goForCopy 52 = .ok (.aload_n 1, 1) := by decide +kernel
theorem dX5_goForCopy_53 : decode cX5_goForCopy 53 = .ok (.getfield 49, 3) := by decide +kernel
theorem dX5_goForCopy_56 : decode cX5_goForCopy 56 = .ok (.invokevirtual 181, 3) := by decide +kernel
theorem dX5_goForCopy_59 : decode cX5_goForCopy 59 = .ok (.iconst 3, 1) := by decide +kernel
theorem dX5_goForCopy_60 : decode cX5_goForCopy 60 = .ok (.ireturn, 1) := by decide +kernel
set_option maxRecDepth 20000 in
theorem ggX5_goForMessage_X1_way : GoodIn wsX5_goForMessage wsX1_way := goodIn_r _ [5] (by decide +kernel) (by decide +kernel)
set_option maxRecDepth 20000 in
theorem gX5_goForMessage_X1_way : GoodIn wsX5_goForMessage (va_wsS RX5 148 yX1_way wsX1_way) := goodIn_app (goodIn_of _ (by decide +kernel)) ggX5_goForMessage_X1_way
set_option maxRecDepth 20000 in
theorem ggX5_goForMessage_X1_take : GoodIn wsX5_goForMessage wsX1_take := goodIn_r _ [9, 10, 11, 12, 13, 4, 14, 15, 37, 38, 39] (by decide +kernel) (by decide +kernel)
set_option maxRecDepth 20000 in
theorem gX5_goForMessage_X1_take : GoodIn wsX5_goForMessage (wsV RX5 184 RX1 yX1_take wsX1_take) := goodIn_app (goodIn_of _ (by decide +kernel)) ggX5_goForMessage_X1_take
set_option maxRecDepth 20000 in
theorem ggX5_goForMessage_X1_findLost : GoodIn wsX5_goForMessage wsX1_findLost := goodIn_r _ [19, 15, 10, 11, 12, 13, 4, 14, 37, 38, 39] (by decide +kernel) (by decide +kernel)
set_option maxRecDepth 20000 in
theorem gX5_goForMessage_X1_findLost : GoodIn wsX5_goForMessage (wsV RX5 186 RX1 yX1_findLost wsX1_findLost) := goodIn_app (goodIn_of _ (by decide +kernel)) ggX5_goForMessage_X1_findLost
theorem dX5_goForMessage_0 : decode cX5_goForMessage 0 = .ok (.iload_n 2, 1) := by decide +kernel
theorem dX5_goForMessage_1 : decode cX5_goForMessage 1 = .ok (.aload_n 1, 1) := by decide +kernel
theorem dX5_goForMessage_2 : decode cX5_goForMessage 2 = .ok (.getfield 49, 3) := by decide +kernel
theorem dX5_goForMessage_5 : decode cX5_goForMessage 5 = .ok (.invokestatic 148, 3) := by decide +kernel
theorem dX5_goForMessage_8 : decode cX5_goForMessage 8 = .ok (.istore_n 3, 1) := by decide +kernel
theorem dX5_goForMessage_9 : decode cX5_goForMessage 9 = .ok (.aload_n 0, 1) := by decide +kernel
theorem dX5_goForMessage_10 : decode cX5_goForMessage 10 = .ok (.getfield 25, 3) := by decide +kernel
theorem dX5_goForMessage_13 : decode cX5_goForMessage 13 = .ok (.iload_n 3, 1) := by decide +kernel
theorem dX5_goForMessage_14 : decode cX5_goForMessage 14 = .ok (.invokevirtual 184, 3) := by decide +kernel
theorem dX5_goForMessage_17 : decode cX5_goForMessage 17 = .ok (.ifCond .eq 5, 3) := by decide +kernel
theorem dX5_goForMessage_20 : decode cX5_goForMessage 20 = .ok (.iconst 1, 1) := by decide +kernel
theorem dX5_goForMessage_21 : decode cX5_goForMessage 21 = .ok (.ireturn, 1) := by decide +kernel
theorem dX5_goForMessage_22 : decode cX5_goForMessage 22 = .ok (.aload_n 0, 1) := by decide +kernel
theorem dX5_goForMessage_23 : decode cX5_goForMessage 23 = .ok (.getfield 25, 3) := by decide +kernel
theorem dX5_goForMessage_26 : decode cX5_goForMessage 26 = .ok (.iload_n 3, 1) := by decide +kernel
theorem dX5_goForMessage_27 : decode cX5_goForMessage 27 = .ok (.invokevirtual 186, 3) := by decide +kernel
theorem dX5_goForMessage_30 : decode cX5_goForMessage 30 = .ok (.ifCond .eq 15, 3) := by decide +kernel
theorem dX5_goForMessage_33 : decode cX5_goForMessage 33 = .ok (.aload_n 1, 1) := by decide +kernel
theorem dX5_goForMessage_34 : decode cX5_goForMessage 34 = .ok (.dup, 1) := by decide +kernel
theorem dX5_goForMessage_35 : decode cX5_goForMessage 35 = .ok (.getfield 124, 3) := by decide +kernel
theorem dX5_goForMessage_38 : decode cX5_goForMessage 38 = .ok (.iconst 1, 1) := by decide +kernel
theorem dX5_goForMessage_39 : decode cX5_goForMessage 39 = .ok (.iadd, 1) := by decide +kernel
theorem dX5_goForMessage_40 : decode cX5_goForMessage 40 = .ok (.putfield 124, 3) := by decide +kernel
theorem dX5_goForMessage_43 : decode cX5_goForMessage 43 = .ok (.iconst 5, 1) := by decide +kernel
theorem dX5_goForMessage_44 : decode cX5_goForMessage 44 = .ok (.ireturn, 1) := by decide +kernel
theorem dX5_goForMessage_45 : decode cX5_goForMessage 45 = .ok (.iconst 4, 1) := by decide +kernel
theorem dX5_goForMessage_46 : decode cX5_goForMessage 46 = .ok (.ireturn, 1) := by decide +kernel
set_option maxRecDepth 20000 in
theorem ggX5_actOrFail_X5_undo : GoodIn wsX5_actOrFail wsX5_undo := goodIn_r _ [7, 1, 8, 9, 10, 11, 12, 13, 14, 15, 16, 17, 18, 19, 20, 21, 22, 23, 24, 25, 26, 27, 28, 29, 30, 31, 32, 33, 34, 35, 36, 88, 89, 90, 91, 92, 76, 77, 78, 79, 80, 81, 82, 83, 84, 85, 86, 87, 93, 94, 95, 96, 97, 98, 99] (by decide +kernel) (by decide +kernel)
set_option maxRecDepth 20000 in
theorem gX5_actOrFail_X5_undo : GoodIn wsX5_actOrFail (wsV RX5 99 RX5 yX5_undo wsX5_undo) := goodIn_app (goodIn_of _ (by decide +kernel)) ggX5_actOrFail_X5_undo
set_option maxRecDepth 20000 in
theorem ggX5_actOrFail_X3_change : GoodIn wsX5_actOrFail wsX3_change := goodIn_r _ [40, 13, 14, 93, 94, 95, 96] (by decide +kernel) (by decide +kernel)
set_option maxRecDepth 20000 in
theorem gX5_actOrFail_X3_change : GoodIn wsX5_actOrFail (wsV RX5 189 RX3 yX3_change wsX3_change) := goodIn_app (goodIn_of _ (by decide +kernel)) ggX5_actOrFail_X3_change
set_option maxRecDepth 20000 in
theorem ggX5_actOrFail_X0_write : GoodIn wsX5_actOrFail wsX0_write := goodIn_r _ [45, 46, 47, 48, 49, 24, 50, 26, 28, 27, 100, 97, 98, 99] (by decide +kernel) (by decide +kernel)
set_option maxRecDepth 20000 in
theorem gX5_actOrFail_X0_write : GoodIn wsX5_actOrFail (wsV RX5 192 RX0 yX0_write wsX0_write) := goodIn_app (goodIn_of _ (by decide +kernel)) ggX5_actOrFail_X0_write
set_option maxRecDepth 20000 in
theorem ggX5_actOrFail_X5_sendAll : GoodIn wsX5_actOrFail wsX5_sendAll := goodIn_r _ [54, 55, 56, 34, 35, 24, 36, 26, 57, 58, 59, 60, 27, 28, 33, 61, 62, 63, 64, 65, 66, 67, 68, 69, 70, 71, 72, 73, 74, 75, 76, 77, 78, 79, 80, 81, 82, 83, 84, 85, 86, 87, 88, 89, 90, 91, 92, 97, 98, 99, 101, 102, 103] (by decide +kernel) (by decide +kernel)
set_option maxRecDepth 20000 in
theorem gX5_actOrFail_X5_sendAll : GoodIn wsX5_actOrFail (wsV RX5 195 RX5 yX5_sendAll wsX5_sendAll) := goodIn_app (goodIn_of _ (by decide +kernel)) ggX5_actOrFail_X5_sendAll
set_option maxRecDepth 20000 in
theorem ggX5_actOrFail_X3_release : GoodIn wsX5_actOrFail wsX3_release := goodIn_r _ [19, 20, 13, 21, 22, 23, 24, 25, 26, 27, 28, 29, 30, 31, 32, 33, 34, 35, 36, 93, 94, 95, 96, 97, 98, 99] (by decide +kernel) (by decide +kernel)
set_option maxRecDepth 20000 in
theorem gX5_actOrFail_X3_release : GoodIn wsX5_actOrFail (wsV RX5 199 RX3 yX3_release wsX3_release) := goodIn_app (goodIn_of _ (by decide +kernel)) ggX5_actOrFail_X3_release
theorem dX5_actOrFail_0 : decode cX5_actOrFail 0 = .ok (.aload_n 1, 1) := by decide +kernel
theorem dX5_actOrFail_1 : decode cX5_actOrFail 1 = .ok (.getfield 115, 3) := by decide +kernel
theorem dX5_actOrFail_4 : decode cX5_actOrFail 4 = .ok (.aload_n 1, 1) := by decide +kernel
theorem dX5_actOrFail_5 : decode cX5_actOrFail 5 = .ok (.getfield 46, 3) := by decide +kernel
theorem dX5_actOrFail_8 : decode cX5_actOrFail 8 = .ok (.if_icmp .ne 12, 3) := by decide +kernel
theorem dX5_actOrFail_11 : decode cX5_actOrFail 11 = .ok (.aload_n 0, 1) := by decide +kernel
theorem dX5_actOrFail_12 : decode cX5_actOrFail 12 = .ok (.aload_n 1, 1) := by decide +kernel
theorem dX5_actOrFail_13 : decode cX5_actOrFail 13 = .ok (.iconst 2, 1) := by decide +kernel
theorem dX5_actOrFail_14 : decode cX5_actOrFail 14 = .ok (.invokevirtual 99, 3) := by decide +kernel
theorem dX5_actOrFail_17 : decode cX5_actOrFail 17 = .ok (.bipush 6, 2) := by decide +kernel
theorem dX5_actOrFail_19 : decode cX5_actOrFail 19 = .ok (.ireturn, 1) := by decide +kernel
theorem dX5_actOrFail_20 : decode cX5_actOrFail 20 = .ok (.aload_n 0, 1) := by decide +kernel
theorem dX5_actOrFail_21 : decode cX5_actOrFail 21 = .ok (.getfield 18, 3) := by decide +kernel
theorem dX5_actOrFail_24 : decode cX5_actOrFail 24 = .ok (.aload_n 1, 1) := by decide +kernel
end
section
theorem dX5_actOrFail_25 : decode cX5_actOrFail 25 = .ok (.getfield 49, 3) := by decide +kernel
theorem dX5_actOrFail_28 : decode cX5_actOrFail 28 = .ok (.aload_n 1, 1) := by decide +kernel
theorem dX5_actOrFail_29 : decode cX5_actOrFail 29 = .ok (.getfield 115, 3) := by decide +kernel
theorem dX5_actOrFail_32 : decode cX5_actOrFail 32 = .ok (.invokevirtual 189, 3) := by decide +kernel
theorem dX5_actOrFail_35 : decode cX5_actOrFail 35 = .ok (.aload_n 0, 1) := by decide +kernel
theorem dX5_actOrFail_36 : decode cX5_actOrFail 36 = .ok (.getfield 32, 3) := by decide +kernel
theorem dX5_actOrFail_39 : decode cX5_actOrFail 39 = .ok (.aload_n 1, 1) := by decide +kernel
theorem dX5_actOrFail_40 : decode cX5_actOrFail 40 = .ok (.getfield 49, 3) := by decide +kernel
theorem dX5_actOrFail_43 : decode cX5_actOrFail 43 = .ok (.aload_n 1, 1) := by decide +kernel
theorem dX5_actOrFail_44 : decode cX5_actOrFail 44 = .ok (.getfield 115, 3) := by decide +kernel
theorem dX5_actOrFail_47 : decode cX5_actOrFail 47 = .ok (.invokevirtual 192, 3) := by decide +kernel
theorem dX5_actOrFail_50 : decode cX5_actOrFail 50 = .ok (.aload_n 0, 1) := by decide +kernel
theorem dX5_actOrFail_51 : decode cX5_actOrFail 51 = .ok (.aload_n 1, 1) := by decide +kernel
theorem dX5_actOrFail_52 : decode cX5_actOrFail 52 = .ok (.invokevirtual 195, 3) := by decide +kernel
theorem dX5_actOrFail_55 : decode cX5_actOrFail 55 = .ok (.aload_n 1, 1) := by decide +kernel
theorem dX5_actOrFail_56 : decode cX5_actOrFail 56 = .ok (.dup, 1) := by decide +kernel
theorem dX5_actOrFail_57 : decode cX5_actOrFail 57 = .ok (.getfield 115, 3) := by decide +kernel
theorem dX5_actOrFail_60 : decode cX5_actOrFail 60 = .ok (.iconst 1, 1) := by decide +kernel
theorem dX5_actOrFail_61 : decode cX5_actOrFail 61 = .ok (.iadd, 1) := by decide +kernel
theorem dX5_actOrFail_62 : decode cX5_actOrFail 62 = .ok (.putfield 115, 3) := by decide +kernel
theorem dX5_actOrFail_65 : decode cX5_actOrFail 65 = .ok (.aload_n 1, 1) := by decide +kernel
theorem dX5_actOrFail_66 : decode cX5_actOrFail 66 = .ok (.iconst 0, 1) := by decide +kernel
theorem dX5_actOrFail_67 : decode cX5_actOrFail 67 = .ok (.putfield 118, 3) := by decide +kernel
theorem dX5_actOrFail_70 : decode cX5_actOrFail 70 = .ok (.aload_n 1, 1) := by decide +kernel
theorem dX5_actOrFail_71 : decode cX5_actOrFail 71 = .ok (.getfield 115, 3) := by decide +kernel
theorem dX5_actOrFail_74 : decode cX5_actOrFail 74 = .ok (.aload_n 1, 1) := by decide +kernel
theorem dX5_actOrFail_75 : decode cX5_actOrFail 75 = .ok (.getfield 43, 3) := by decide +kernel
theorem dX5_actOrFail_78 : decode cX5_actOrFail 78 = .ok (.if_icmp .lt 19, 3) := by decide +kernel
theorem dX5_actOrFail_81 : decode cX5_actOrFail 81 = .ok (.aload_n 1, 1) := by decide +kernel
theorem dX5_actOrFail_82 : decode cX5_actOrFail 82 = .ok (.iconst 1, 1) := by decide +kernel
theorem dX5_actOrFail_83 : decode cX5_actOrFail 83 = .ok (.putfield 103, 3) := by decide +kernel
theorem dX5_actOrFail_86 : decode cX5_actOrFail 86 = .ok (.aload_n 0, 1) := by decide +kernel
theorem dX5_actOrFail_87 : decode cX5_actOrFail 87 = .ok (.getfield 18, 3) := by decide +kernel
theorem dX5_actOrFail_90 : decode cX5_actOrFail 90 = .ok (.aload_n 1, 1) := by decide +kernel
theorem dX5_actOrFail_91 : decode cX5_actOrFail 91 = .ok (.getfield 49, 3) := by decide +kernel
theorem dX5_actOrFail_94 : decode cX5_actOrFail 94 = .ok (.invokevirtual 199, 3) := by decide +kernel
theorem dX5_actOrFail_97 : decode cX5_actOrFail 97 = .ok (.iconst 2, 1) := by decide +kernel
theorem dX5_actOrFail_98 : decode cX5_actOrFail 98 = .ok (.ireturn, 1) := by decide +kernel
set_option maxRecDepth 20000 in
theorem ggX5_sendAll_X2_count : GoodIn wsX5_sendAll wsX2_count := goodIn_r _ [6, 7, 47, 48, 49] (by decide +kernel) (by decide +kernel)
set_option maxRecDepth 20000 in
theorem gX5_sendAll_X2_count : GoodIn wsX5_sendAll (wsV RX5 202 RX2 yX2_count wsX2_count) := goodIn_app (goodIn_of _ (by decide +kernel)) ggX5_sendAll_X2_count
set_option maxRecDepth 20000 in
theorem ggX5_sendAll_X2_item : GoodIn wsX5_sendAll wsX2_item := goodIn_r _ [11, 12, 13, 14, 3, 4, 5, 6, 7, 47, 48, 49] (by decide +kernel) (by decide +kernel)
set_option maxRecDepth 20000 in
theorem gX5_sendAll_X2_item : GoodIn wsX5_sendAll (wsV RX5 134 RX2 yX2_item wsX2_item) := goodIn_app (goodIn_of _ (by decide +kernel)) ggX5_sendAll_X2_item
set_option maxRecDepth 20000 in
theorem ggX5_sendAll_X1_way : GoodIn wsX5_sendAll wsX1_way := goodIn_r _ [18] (by decide +kernel) (by decide +kernel)
set_option maxRecDepth 20000 in
theorem gX5_sendAll_X1_way : GoodIn wsX5_sendAll (va_wsS RX5 148 yX1_way wsX1_way) := goodIn_app (goodIn_of _ (by decide +kernel)) ggX5_sendAll_X1_way
set_option maxRecDepth 20000 in
theorem ggX5_sendAll_X1_send : GoodIn wsX5_sendAll wsX1_send := goodIn_r _ [22, 23, 24, 25, 26, 27, 28, 17, 29, 50, 51, 52] (by decide +kernel) (by decide +kernel)
set_option maxRecDepth 20000 in
theorem gX5_sendAll_X1_send : GoodIn wsX5_sendAll (wsV RX5 205 RX1 yX1_send wsX1_send) := goodIn_app (goodIn_of _ (by decide +kernel)) ggX5_sendAll_X1_send
theorem dX5_sendAll_0 : decode cX5_sendAll 0 = .ok (.aload_n 1, 1) := by decide +kernel
theorem dX5_sendAll_1 : decode cX5_sendAll 1 = .ok (.getfield 81, 3) := by decide +kernel
theorem dX5_sendAll_4 : decode cX5_sendAll 4 = .ok (.aload_n 1, 1) := by decide +kernel
theorem dX5_sendAll_5 : decode cX5_sendAll 5 = .ok (.getfield 115, 3) := by decide +kernel
theorem dX5_sendAll_8 : decode cX5_sendAll 8 = .ok (.invokevirtual 202, 3) := by decide +kernel
theorem dX5_sendAll_11 : decode cX5_sendAll 11 = .ok (.istore_n 2, 1) := by decide +kernel
theorem dX5_sendAll_12 : decode cX5_sendAll 12 = .ok (.iconst 0, 1) := by decide +kernel
theorem dX5_sendAll_13 : decode cX5_sendAll 13 = .ok (.istore_n 3, 1) := by decide +kernel
theorem dX5_sendAll_14 : decode cX5_sendAll 14 = .ok (.iload_n 3, 1) := by decide +kernel
theorem dX5_sendAll_15 : decode cX5_sendAll 15 = .ok (.iload_n 2, 1) := by decide +kernel
theorem dX5_sendAll_16 : decode cX5_sendAll 16 = .ok (.if_icmp .ge 35, 3) := by decide +kernel
theorem dX5_sendAll_19 : decode cX5_sendAll 19 = .ok (.aload_n 0, 1) := by decide +kernel
theorem dX5_sendAll_20 : decode cX5_sendAll 20 = .ok (.getfield 25, 3) := by decide +kernel
theorem dX5_sendAll_23 : decode cX5_sendAll 23 = .ok (.aload_n 1, 1) := by decide +kernel
theorem dX5_sendAll_24 : decode cX5_sendAll 24 = .ok (.getfield 49, 3) := by decide +kernel
theorem dX5_sendAll_27 : decode cX5_sendAll 27 = .ok (.aload_n 1, 1) := by decide +kernel
theorem dX5_sendAll_28 : decode cX5_sendAll 28 = .ok (.getfield 81, 3) := by decide +kernel
theorem dX5_sendAll_31 : decode cX5_sendAll 31 = .ok (.aload_n 1, 1) := by decide +kernel
theorem dX5_sendAll_32 : decode cX5_sendAll 32 = .ok (.getfield 115, 3) := by decide +kernel
theorem dX5_sendAll_35 : decode cX5_sendAll 35 = .ok (.iload_n 3, 1) := by decide +kernel
theorem dX5_sendAll_36 : decode cX5_sendAll 36 = .ok (.invokevirtual 134, 3) := by decide +kernel
theorem dX5_sendAll_39 : decode cX5_sendAll 39 = .ok (.invokestatic 148, 3) := by decide +kernel
theorem dX5_sendAll_42 : decode cX5_sendAll 42 = .ok (.invokevirtual 205, 3) := by decide +kernel
theorem dX5_sendAll_45 : decode cX5_sendAll 45 = .ok (.iinc 3 1, 3) := by decide +kernel
theorem dX5_sendAll_48 : decode cX5_sendAll 48 = .ok (.goto (-34), 3) := by decide +kernel
theorem dX5_sendAll_51 : decode cX5_sendAll 51 = .ok (.return_, 1) := by decide +kernel
set_option maxRecDepth 20000 in
theorem ggX5_undo_X3_restore : GoodIn wsX5_undo wsX3_restore := goodIn_r _ [6, 7, 8, 9, 48, 49, 50, 51] (by decide +kernel) (by decide +kernel)
set_option maxRecDepth 20000 in
theorem gX5_undo_X3_restore : GoodIn wsX5_undo (wsV RX5 208 RX3 yX3_restore wsX3_restore) := goodIn_app (goodIn_of _ (by decide +kernel)) ggX5_undo_X3_restore
set_option maxRecDepth 20000 in
theorem ggX5_undo_X3_release : GoodIn wsX5_undo wsX3_release := goodIn_r _ [13, 14, 7, 15, 16, 17, 18, 19, 20, 21, 22, 23, 24, 25, 26, 27, 28, 29, 30, 48, 49, 50, 51, 52, 53, 54] (by decide +kernel) (by decide +kernel)
set_option maxRecDepth 20000 in
theorem gX5_undo_X3_release : GoodIn wsX5_undo (wsV RX5 199 RX3 yX3_release wsX3_release) := goodIn_app (goodIn_of _ (by decide +kernel)) ggX5_undo_X3_release
theorem dX5_undo_0 : decode cX5_undo 0 = .ok (.aload_n 0, 1) := by decide +kernel
theorem dX5_undo_1 : decode cX5_undo 1 = .ok (.getfield 18, 3) := by decide +kernel
theorem dX5_undo_4 : decode cX5_undo 4 = .ok (.aload_n 1, 1) := by decide +kernel
theorem dX5_undo_5 : decode cX5_undo 5 = .ok (.getfield 49, 3) := by decide +kernel
theorem dX5_undo_8 : decode cX5_undo 8 = .ok (.invokevirtual 208, 3) := by decide +kernel
theorem dX5_undo_11 : decode cX5_undo 11 = .ok (.aload_n 0, 1) := by decide +kernel
theorem dX5_undo_12 : decode cX5_undo 12 = .ok (.getfield 18, 3) := by decide +kernel
theorem dX5_undo_15 : decode cX5_undo 15 = .ok (.aload_n 1, 1) := by decide +kernel
theorem dX5_undo_16 : decode cX5_undo 16 = .ok (.getfield 49, 3) := by decide +kernel
theorem dX5_undo_19 : decode cX5_undo 19 = .ok (.invokevirtual 199, 3) := by decide +kernel
theorem dX5_undo_22 : decode cX5_undo 22 = .ok (.aload_n 1, 1) := by decide +kernel
theorem dX5_undo_23 : decode cX5_undo 23 = .ok (.iload_n 2, 1) := by decide +kernel
theorem dX5_undo_24 : decode cX5_undo 24 = .ok (.putfield 103, 3) := by decide +kernel
theorem dX5_undo_27 : decode cX5_undo 27 = .ok (.return_, 1) := by decide +kernel
set_option maxRecDepth 20000 in
theorem ggX5_greatestInRingOf_X3_holderAwaitedBy : GoodIn wsX5_greatestInRingOf wsX3_holderAwaitedBy := goodIn_r _ [10, 11, 12, 13, 14, 15, 16, 17, 18, 19, 20, 21, 22, 23, 24, 30, 31, 32, 33, 34, 35, 36] (by decide +kernel) (by decide +kernel)
set_option maxRecDepth 20000 in
theorem gX5_greatestInRingOf_X3_holderAwaitedBy : GoodIn wsX5_greatestInRingOf (wsV RX5 211 RX3 yX3_holderAwaitedBy wsX3_holderAwaitedBy) := goodIn_app (goodIn_of _ (by decide +kernel)) ggX5_greatestInRingOf_X3_holderAwaitedBy
theorem dX5_greatestInRingOf_0 : decode cX5_greatestInRingOf 0 = .ok (.iload_n 1, 1) := by decide +kernel
theorem dX5_greatestInRingOf_1 : decode cX5_greatestInRingOf 1 = .ok (.istore_n 2, 1) := by decide +kernel
theorem dX5_greatestInRingOf_2 : decode cX5_greatestInRingOf 2 = .ok (.aload_n 0, 1) := by decide +kernel
theorem dX5_greatestInRingOf_3 : decode cX5_greatestInRingOf 3 = .ok (.getfield 18, 3) := by decide +kernel
theorem dX5_greatestInRingOf_6 : decode cX5_greatestInRingOf 6 = .ok (.iload_n 1, 1) := by decide +kernel
theorem dX5_greatestInRingOf_7 : decode cX5_greatestInRingOf 7 = .ok (.invokevirtual 211, 3) := by decide +kernel
theorem dX5_greatestInRingOf_10 : decode cX5_greatestInRingOf 10 = .ok (.istore_n 3, 1) := by decide +kernel
theorem dX5_greatestInRingOf_11 : decode cX5_greatestInRingOf 11 = .ok (.iconst 0, 1) := by decide +kernel
theorem dX5_greatestInRingOf_12 : decode cX5_greatestInRingOf 12 = .ok (.istore 4, 2) := by decide +kernel
theorem dX5_greatestInRingOf_14 : decode cX5_greatestInRingOf 14 = .ok (.iload 4, 2) := by decide +kernel
theorem dX5_greatestInRingOf_16 : decode cX5_greatestInRingOf 16 = .ok (.bipush 12, 2) := by decide +kernel
theorem dX5_greatestInRingOf_18 : decode cX5_greatestInRingOf 18 = .ok (.if_icmp .ge 34, 3) := by decide +kernel
theorem dX5_greatestInRingOf_21 : decode cX5_greatestInRingOf 21 = .ok (.iload_n 3, 1) := by decide +kernel
theorem dX5_greatestInRingOf_22 : decode cX5_greatestInRingOf 22 = .ok (.iconst (-1), 1) := by decide +kernel
theorem dX5_greatestInRingOf_23 : decode cX5_greatestInRingOf 23 = .ok (.if_icmp .eq 29, 3) := by decide +kernel
theorem dX5_greatestInRingOf_26 : decode cX5_greatestInRingOf 26 = .ok (.iload_n 3, 1) := by decide +kernel
theorem dX5_greatestInRingOf_27 : decode cX5_greatestInRingOf 27 = .ok (.iload_n 1, 1) := by decide +kernel
theorem dX5_greatestInRingOf_28 : decode cX5_greatestInRingOf 28 = .ok (.if_icmp .eq 24, 3) := by decide +kernel
theorem dX5_greatestInRingOf_31 : decode cX5_greatestInRingOf 31 = .ok (.iload_n 2, 1) := by decide +kernel
theorem dX5_greatestInRingOf_32 : decode cX5_greatestInRingOf 32 = .ok (.iload_n 3, 1) := by decide +kernel
theorem dX5_greatestInRingOf_33 : decode cX5_greatestInRingOf 33 = .ok (.invokestatic 214, 3) := by decide +kernel
theorem dX5_greatestInRingOf_36 : decode cX5_greatestInRingOf 36 = .ok (.istore_n 2, 1) := by decide +kernel
theorem dX5_greatestInRingOf_37 : decode cX5_greatestInRingOf 37 = .ok (.aload_n 0, 1) := by decide +kernel
theorem dX5_greatestInRingOf_38 : decode cX5_greatestInRingOf 38 = .ok (.getfield 18, 3) := by decide +kernel
theorem dX5_greatestInRingOf_41 : decode cX5_greatestInRingOf 41 = .ok (.iload_n 3, 1) := by decide +kernel
theorem dX5_greatestInRingOf_42 : decode cX5_greatestInRingOf 42 = .ok (.invokevirtual 211, 3) := by decide +kernel
theorem dX5_greatestInRingOf_45 : decode cX5_greatestInRingOf 45 = .ok (.istore_n 3, 1) := by decide +kernel
theorem dX5_greatestInRingOf_46 : decode cX5_greatestInRingOf 46 = .ok (.iinc 4 1, 3) := by decide +kernel
theorem dX5_greatestInRingOf_49 : decode cX5_greatestInRingOf 49 = .ok (.goto (-35), 3) := by decide +kernel
theorem dX5_greatestInRingOf_52 : decode cX5_greatestInRingOf 52 = .ok (.iload_n 3, 1) := by decide +kernel
theorem dX5_greatestInRingOf_53 : decode cX5_greatestInRingOf 53 = .ok (.iload_n 1, 1) := by decide +kernel
theorem dX5_greatestInRingOf_54 : decode cX5_greatestInRingOf 54 = .ok (.if_icmp .ne 7, 3) := by decide +kernel
theorem dX5_greatestInRingOf_57 : decode cX5_greatestInRingOf 57 = .ok (.iload_n 2, 1) := by decide +kernel
theorem dX5_greatestInRingOf_58 : decode cX5_greatestInRingOf 58 = .ok (.goto 4, 3) := by decide +kernel
theorem dX5_greatestInRingOf_61 : decode cX5_greatestInRingOf 61 = .ok (.iconst (-1), 1) := by decide +kernel
theorem dX5_greatestInRingOf_62 : decode cX5_greatestInRingOf 62 = .ok (.ireturn, 1) := by decide +kernel
theorem dX6_init_0 : decode cX6_init 0 = .ok (.aload_n 0, 1) := by decide +kernel
theorem dX6_init_1 : decode cX6_init 1 = .ok (.invokespecial 1, 3) := by decide +kernel
theorem dX6_init_4 : decode cX6_init 4 = .ok (.aload_n 0, 1) := by decide +kernel
theorem dX6_init_5 : decode cX6_init 5 = .ok (.bipush 12, 2) := by decide +kernel
theorem dX6_init_7 : decode cX6_init 7 = .ok (.newarray .int, 2) := by decide +kernel
theorem dX6_init_9 : decode cX6_init 9 = .ok (.putfield 7, 3) := by decide +kernel
theorem dX6_init_12 : decode cX6_init 12 = .ok (.aload_n 0, 1) := by decide +kernel
theorem dX6_init_13 : decode cX6_init 13 = .ok (.bipush 12, 2) := by decide +kernel
theorem dX6_init_15 : decode cX6_init 15 = .ok (.newarray .int, 2) := by decide +kernel
theorem dX6_init_17 : decode cX6_init 17 = .ok (.putfield 13, 3) := by decide +kernel
theorem dX6_init_20 : decode cX6_init 20 = .ok (.aload_n 0, 1) := by decide +kernel
theorem dX6_init_21 : decode cX6_init 21 = .ok (.bipush 12, 2) := by decide +kernel
theorem dX6_init_23 : decode cX6_init 23 = .ok (.newarray .int, 2) := by decide +kernel
theorem dX6_init_25 : decode cX6_init 25 = .ok (.putfield 16, 3) := by decide +kernel
theorem dX6_init_28 : decode cX6_init 28 = .ok (.aload_n 0, 1) := by decide +kernel
theorem dX6_init_29 : decode cX6_init 29 = .ok (.bipush 12, 2) := by decide +kernel
theorem dX6_init_31 : decode cX6_init 31 = .ok (.newarray .int, 2) := by decide +kernel
theorem dX6_init_33 : decode cX6_init 33 = .ok (.putfield 19, 3) := by decide +kernel
theorem dX6_init_36 : decode cX6_init 36 = .ok (.aload_n 0, 1) := by decide +kernel
theorem dX6_init_37 : decode cX6_init 37 = .ok (.bipush 12, 2) := by decide +kernel
theorem dX6_init_39 : decode cX6_init 39 = .ok (.newarray .int, 2) := by decide +kernel
theorem dX6_init_41 : decode cX6_init 41 = .ok (.putfield 22, 3) := by decide +kernel
theorem dX6_init_44 : decode cX6_init 44 = .ok (.aload_n 0, 1) := by decide +kernel
theorem dX6_init_45 : decode cX6_init 45 = .ok (.bipush 12, 2) := by decide +kernel
theorem dX6_init_47 : decode cX6_init 47 = .ok (.newarray .int, 2) := by decide +kernel
theorem dX6_init_49 : decode cX6_init 49 = .ok (.putfield 25, 3) := by decide +kernel
theorem dX6_init_52 : decode cX6_init 52 = .ok (.aload_n 0, 1) := by decide +kernel
theorem dX6_init_53 : decode cX6_init 53 = .ok (.bipush 12, 2) := by decide +kernel
theorem dX6_init_55 : decode cX6_init 55 = .ok (.newarray .boolean, 2) := by decide +kernel
theorem dX6_init_57 : decode cX6_init 57 = .ok (.putfield 28, 3) := by decide +kernel
theorem dX6_init_60 : decode cX6_init 60 = .ok (.aload_n 0, 1) := by decide +kernel
theorem dX6_init_61 : decode cX6_init 61 = .ok (.bipush 12, 2) := by decide +kernel
theorem dX6_init_63 : decode cX6_init 63 = .ok (.newarray .int, 2) := by decide +kernel
theorem dX6_init_65 : decode cX6_init 65 = .ok (.putfield 32, 3) := by decide +kernel
theorem dX6_init_68 : decode cX6_init 68 = .ok (.aload_n 0, 1) := by decide +kernel
theorem dX6_init_69 : decode cX6_init 69 = .ok (.bipush 12, 2) := by decide +kernel
theorem dX6_init_71 : decode cX6_init 71 = .ok (.newarray .int, 2) := by decide +kernel
theorem dX6_init_73 : decode cX6_init 73 = .ok (.putfield 35, 3) := by decide +kernel
theorem dX6_init_76 : decode cX6_init 76 = .ok (.aload_n 0, 1) := by decide +kernel
theorem dX6_init_77 : decode cX6_init 77 = .ok (.bipush 12, 2) := by decide +kernel
theorem dX6_init_79 : decode cX6_init 79 = .ok (.newarray .int, 2) := by decide +kernel
theorem dX6_init_81 : decode cX6_init 81 = .ok (.putfield 38, 3) := by decide +kernel
theorem dX6_init_84 : decode cX6_init 84 = .ok (.aload_n 0, 1) := by decide +kernel
theorem dX6_init_85 : decode cX6_init 85 = .ok (.bipush 12, 2) := by decide +kernel
theorem dX6_init_87 : decode cX6_init 87 = .ok (.newarray .int, 2) := by decide +kernel
theorem dX6_init_89 : decode cX6_init 89 = .ok (.putfield 41, 3) := by decide +kernel
theorem dX6_init_92 : decode cX6_init 92 = .ok (.aload_n 0, 1) := by decide +kernel
theorem dX6_init_93 : decode cX6_init 93 = .ok (.bipush 120, 2) := by decide +kernel
theorem dX6_init_95 : decode cX6_init 95 = .ok (.newarray .int, 2) := by decide +kernel
theorem dX6_init_97 : decode cX6_init 97 = .ok (.putfield 44, 3) := by decide +kernel
theorem dX6_init_100 : decode cX6_init 100 = .ok (.aload_n 0, 1) := by decide +kernel
theorem dX6_init_101 : decode cX6_init 101 = .ok (.sipush 480, 3) := by decide +kernel
theorem dX6_init_104 : decode cX6_init 104 = .ok (.newarray .int, 2) := by decide +kernel
theorem dX6_init_106 : decode cX6_init 106 = .ok (.putfield 47, 3) := by decide +kernel
theorem dX6_init_109 : decode cX6_init 109 = .ok (.aload_n 0, 1) := by decide +kernel
theorem dX6_init_110 : decode cX6_init 110 = .ok (.bipush 120, 2) := by decide +kernel
theorem dX6_init_112 : decode cX6_init 112 = .ok (.newarray .int, 2) := by decide +kernel
theorem dX6_init_114 : decode cX6_init 114 = .ok (.putfield 50, 3) := by decide +kernel
theorem dX6_init_117 : decode cX6_init 117 = .ok (.aload_n 0, 1) := by decide +kernel
theorem dX6_init_118 : decode cX6_init 118 = .ok (.sipush 240, 3) := by decide +kernel
theorem dX6_init_121 : decode cX6_init 121 = .ok (.newarray .int, 2) := by decide +kernel
theorem dX6_init_123 : decode cX6_init 123 = .ok (.putfield 53, 3) := by decide +kernel
theorem dX6_init_126 : decode cX6_init 126 = .ok (.aload_n 0, 1) := by decide +kernel
theorem dX6_init_127 : decode cX6_init 127 = .ok (.bipush 10, 2) := by decide +kernel
theorem dX6_init_129 : decode cX6_init 129 = .ok (.newarray .int, 2) := by decide +kernel
theorem dX6_init_131 : decode cX6_init 131 = .ok (.putfield 56, 3) := by decide +kernel
theorem dX6_init_134 : decode cX6_init 134 = .ok (.aload_n 0, 1) := by decide +kernel
theorem dX6_init_135 : decode cX6_init 135 = .ok (.bipush 10, 2) := by decide +kernel
theorem dX6_init_137 : decode cX6_init 137 = .ok (.newarray .int, 2) := by decide +kernel
theorem dX6_init_139 : decode cX6_init 139 = .ok (.putfield 59, 3) := by decide +kernel
theorem dX6_init_142 : decode cX6_init 142 = .ok (.aload_n 0, 1) := by decide +kernel
theorem dX6_init_143 : decode cX6_init 143 = .ok (.sipush 144, 3) := by decide +kernel
theorem dX6_init_146 : decode cX6_init 146 = .ok (.newarray .int, 2) := by decide +kernel
theorem dX6_init_148 : decode cX6_init 148 = .ok (.putfield 62, 3) := by decide +kernel
theorem dX6_init_151 : decode cX6_init 151 = .ok (.aload_n 0, 1) := by decide +kernel
theorem dX6_init_152 : decode cX6_init 152 = .ok (.sipush 144, 3) := by decide +kernel
theorem dX6_init_155 : decode cX6_init 155 = .ok (.newarray .int, 2) := by decide +kernel
theorem dX6_init_157 : decode cX6_init 157 = .ok (.putfield 65, 3) := by decide +kernel
theorem dX6_init_160 : decode cX6_init 160 = .ok (.aload_n 0, 1) := by decide +kernel
theorem dX6_init_161 : decode cX6_init 161 = .ok (.sipush 1200, 3) := by decide +kernel
theorem dX6_init_164 : decode cX6_init 164 = .ok (.newarray .int, 2) := by decide +kernel
theorem dX6_init_166 : decode cX6_init 166 = .ok (.putfield 68, 3) := by decide +kernel
theorem dX6_init_169 : decode cX6_init 169 = .ok (.aload_n 0, 1) := by decide +kernel
theorem dX6_init_170 : decode cX6_init 170 = .ok (.sipush 1200, 3) := by decide +kernel
theorem dX6_init_173 : decode cX6_init 173 = .ok (.newarray .int, 2) := by decide +kernel
theorem dX6_init_175 : decode cX6_init 175 = .ok (.putfield 71, 3) := by decide +kernel
theorem dX6_init_178 : decode cX6_init 178 = .ok (.aload_n 0, 1) := by decide +kernel
theorem dX6_init_179 : decode cX6_init 179 = .ok (.sipush 1200, 3) := by decide +kernel
theorem dX6_init_182 : decode cX6_init 182 = .ok (.newarray .int, 2) := by decide +kernel
theorem dX6_init_184 : decode cX6_init 184 = .ok (.putfield 74, 3) := by decide +kernel
theorem dX6_init_187 : decode cX6_init 187 = .ok (.aload_n 0, 1) := by decide +kernel
theorem dX6_init_188 : decode cX6_init 188 = .ok (.sipush 300, 3) := by decide +kernel
theorem dX6_init_191 : decode cX6_init 191 = .ok (.newarray .int, 2) := by decide +kernel
theorem dX6_init_193 : decode cX6_init 193 = .ok (.putfield 77, 3) := by decide +kernel
theorem dX6_init_196 : decode cX6_init 196 = .ok (.return_, 1) := by decide +kernel
theorem dX6_in_0 : decode cX6_in 0 = .ok (.iload_n 0, 1) := by decide +kernel
theorem dX6_in_1 : decode cX6_in 1 = .ok (.iload_n 1, 1) := by decide +kernel
theorem dX6_in_2 : decode cX6_in 2 = .ok (.if_icmp .lt 12, 3) := by decide +kernel
theorem dX6_in_5 : decode cX6_in 5 = .ok (.iload_n 0, 1) := by decide +kernel
theorem dX6_in_6 : decode cX6_in 6 = .ok (.iload_n 2, 1) := by decide +kernel
theorem dX6_in_7 : decode cX6_in 7 = .ok (.if_icmp .gt 7, 3) := by decide +kernel
theorem dX6_in_10 : decode cX6_in 10 = .ok (.iconst 1, 1) := by decide +kernel
theorem dX6_in_11 : decode cX6_in 11 = .ok (.goto 4, 3) := by decide +kernel
theorem dX6_in_14 : decode cX6_in 14 = .ok (.iconst 0, 1) := by decide +kernel
theorem dX6_in_15 : decode cX6_in 15 = .ok (.ireturn, 1) := by decide +kernel
set_option maxRecDepth 20000 in
theorem ggX6_isWork_X6_in : GoodIn wsX6_isWork wsX6_in := goodIn_r _ [5] (by decide +kernel) (by decide +kernel)
set_option maxRecDepth 20000 in
theorem gX6_isWork_X6_in : GoodIn wsX6_isWork (va_wsS RX6 87 yX6_in wsX6_in) := goodIn_app (goodIn_of _ (by decide +kernel)) ggX6_isWork_X6_in
theorem dX6_isWork_0 : decode cX6_isWork 0 = .ok (.iload_n 1, 1) := by decide +kernel
theorem dX6_isWork_1 : decode cX6_isWork 1 = .ok (.iconst 0, 1) := by decide +kernel
theorem dX6_isWork_2 : decode cX6_isWork 2 = .ok (.aload_n 0, 1) := by decide +kernel
theorem dX6_isWork_3 : decode cX6_isWork 3 = .ok (.getfield 84, 3) := by decide +kernel
theorem dX6_isWork_6 : decode cX6_isWork 6 = .ok (.iconst 1, 1) := by decide +kernel
theorem dX6_isWork_7 : decode cX6_isWork 7 = .ok (.isub, 1) := by decide +kernel
theorem dX6_isWork_8 : decode cX6_isWork 8 = .ok (.invokestatic 87, 3) := by decide +kernel
theorem dX6_isWork_11 : decode cX6_isWork 11 = .ok (.ireturn, 1) := by decide +kernel
set_option maxRecDepth 20000 in
theorem ggX6_work_X6_in : GoodIn wsX6_work wsX6_in := goodIn_r _ [8] (by decide +kernel) (by decide +kernel)
set_option maxRecDepth 20000 in
theorem gX6_work_X6_in : GoodIn wsX6_work (va_wsS RX6 87 yX6_in wsX6_in) := goodIn_app (goodIn_of _ (by decide +kernel)) ggX6_work_X6_in
theorem dX6_work_0 : decode cX6_work 0 = .ok (.aload_n 0, 1) := by decide +kernel
theorem dX6_work_1 : decode cX6_work 1 = .ok (.iconst 0, 1) := by decide +kernel
theorem dX6_work_2 : decode cX6_work 2 = .ok (.putfield 80, 3) := by decide +kernel
theorem dX6_work_5 : decode cX6_work 5 = .ok (.iload_n 1, 1) := by decide +kernel
theorem dX6_work_6 : decode cX6_work 6 = .ok (.iconst 1, 1) := by decide +kernel
theorem dX6_work_7 : decode cX6_work 7 = .ok (.bipush 10, 2) := by decide +kernel
theorem dX6_work_9 : decode cX6_work 9 = .ok (.invokestatic 87, 3) := by decide +kernel
theorem dX6_work_12 : decode cX6_work 12 = .ok (.ifCond .eq 14, 3) := by decide +kernel
theorem dX6_work_15 : decode cX6_work 15 = .ok (.iload_n 2, 1) := by decide +kernel
theorem dX6_work_16 : decode cX6_work 16 = .ok (.iconst (-1), 1) := by decide +kernel
theorem dX6_work_17 : decode cX6_work 17 = .ok (.iload_n 1, 1) := by decide +kernel
theorem dX6_work_18 : decode cX6_work 18 = .ok (.iconst 1, 1) := by decide +kernel
theorem dX6_work_19 : decode cX6_work 19 = .ok (.isub, 1) := by decide +kernel
theorem dX6_work_20 : decode cX6_work 20 = .ok (.invokestatic 87, 3) := by decide +kernel
theorem dX6_work_23 : decode cX6_work 23 = .ok (.ifCond .ne 6, 3) := by decide +kernel
theorem dX6_work_26 : decode cX6_work 26 = .ok (.bipush (-2), 2) := by decide +kernel
theorem dX6_work_28 : decode cX6_work 28 = .ok (.ireturn, 1) := by decide +kernel
theorem dX6_work_29 : decode cX6_work 29 = .ok (.aload_n 0, 1) := by decide +kernel
theorem dX6_work_30 : decode cX6_work 30 = .ok (.getfield 84, 3) := by decide +kernel
theorem dX6_work_33 : decode cX6_work 33 = .ok (.bipush 12, 2) := by decide +kernel
theorem dX6_work_35 : decode cX6_work 35 = .ok (.if_icmp .ne 6, 3) := by decide +kernel
theorem dX6_work_38 : decode cX6_work 38 = .ok (.bipush (-4), 2) := by decide +kernel
theorem dX6_work_40 : decode cX6_work 40 = .ok (.ireturn, 1) := by decide +kernel
theorem dX6_work_41 : decode cX6_work 41 = .ok (.aload_n 0, 1) := by decide +kernel
theorem dX6_work_42 : decode cX6_work 42 = .ok (.getfield 7, 3) := by decide +kernel
theorem dX6_work_45 : decode cX6_work 45 = .ok (.aload_n 0, 1) := by decide +kernel
theorem dX6_work_46 : decode cX6_work 46 = .ok (.getfield 84, 3) := by decide +kernel
theorem dX6_work_49 : decode cX6_work 49 = .ok (.iload_n 1, 1) := by decide +kernel
theorem dX6_work_50 : decode cX6_work 50 = .ok (.iastore, 1) := by decide +kernel
theorem dX6_work_51 : decode cX6_work 51 = .ok (.aload_n 0, 1) := by decide +kernel
theorem dX6_work_52 : decode cX6_work 52 = .ok (.getfield 13, 3) := by decide +kernel
theorem dX6_work_55 : decode cX6_work 55 = .ok (.aload_n 0, 1) := by decide +kernel
theorem dX6_work_56 : decode cX6_work 56 = .ok (.getfield 84, 3) := by decide +kernel
theorem dX6_work_59 : decode cX6_work 59 = .ok (.iload_n 2, 1) := by decide +kernel
theorem dX6_work_60 : decode cX6_work 60 = .ok (.iastore, 1) := by decide +kernel
theorem dX6_work_61 : decode cX6_work 61 = .ok (.aload_n 0, 1) := by decide +kernel
theorem dX6_work_62 : decode cX6_work 62 = .ok (.dup, 1) := by decide +kernel
theorem dX6_work_63 : decode cX6_work 63 = .ok (.getfield 84, 3) := by decide +kernel
theorem dX6_work_66 : decode cX6_work 66 = .ok (.iconst 1, 1) := by decide +kernel
theorem dX6_work_67 : decode cX6_work 67 = .ok (.iadd, 1) := by decide +kernel
theorem dX6_work_68 : decode cX6_work 68 = .ok (.putfield 84, 3) := by decide +kernel
theorem dX6_work_71 : decode cX6_work 71 = .ok (.aload_n 0, 1) := by decide +kernel
theorem dX6_work_72 : decode cX6_work 72 = .ok (.getfield 84, 3) := by decide +kernel
theorem dX6_work_75 : decode cX6_work 75 = .ok (.iconst 1, 1) := by decide +kernel
theorem dX6_work_76 : decode cX6_work 76 = .ok (.isub, 1) := by decide +kernel
theorem dX6_work_77 : decode cX6_work 77 = .ok (.ireturn, 1) := by decide +kernel
set_option maxRecDepth 20000 in
theorem ggX6_isStep_X6_isWork : GoodIn wsX6_isStep wsX6_isWork := goodIn_r _ [6, 7, 8, 9, 5, 10, 11, 12, 13, 14, 15, 16, 17, 18, 19, 20, 21, 22, 23, 24, 25, 26, 27, 28, 29, 30, 31, 32, 33, 34, 35, 36, 37, 38, 39] (by decide +kernel) (by decide +kernel)
set_option maxRecDepth 20000 in
theorem gX6_isStep_X6_isWork : GoodIn wsX6_isStep (wsV RX6 91 RX6 yX6_isWork wsX6_isWork) := goodIn_app (goodIn_of _ (by decide +kernel)) ggX6_isStep_X6_isWork
set_option maxRecDepth 20000 in
theorem ggX6_isStep_X6_in : GoodIn wsX6_isStep wsX6_in := goodIn_r _ [10] (by decide +kernel) (by decide +kernel)
set_option maxRecDepth 20000 in
theorem gX6_isStep_X6_in : GoodIn wsX6_isStep (va_wsS RX6 87 yX6_in wsX6_in) := goodIn_app (goodIn_of _ (by decide +kernel)) ggX6_isStep_X6_in
theorem dX6_isStep_0 : decode cX6_isStep 0 = .ok (.aload_n 0, 1) := by decide +kernel
theorem dX6_isStep_1 : decode cX6_isStep 1 = .ok (.iload_n 1, 1) := by decide +kernel
theorem dX6_isStep_2 : decode cX6_isStep 2 = .ok (.invokevirtual 91, 3) := by decide +kernel
theorem dX6_isStep_5 : decode cX6_isStep 5 = .ok (.ifCond .eq 23, 3) := by decide +kernel
theorem dX6_isStep_8 : decode cX6_isStep 8 = .ok (.iload_n 2, 1) := by decide +kernel
theorem dX6_isStep_9 : decode cX6_isStep 9 = .ok (.iconst 0, 1) := by decide +kernel
theorem dX6_isStep_10 : decode cX6_isStep 10 = .ok (.aload_n 0, 1) := by decide +kernel
theorem dX6_isStep_11 : decode cX6_isStep 11 = .ok (.getfield 7, 3) := by decide +kernel
theorem dX6_isStep_14 : decode cX6_isStep 14 = .ok (.iload_n 1, 1) := by decide +kernel
theorem dX6_isStep_15 : decode cX6_isStep 15 = .ok (.iaload, 1) := by decide +kernel
theorem dX6_isStep_16 : decode cX6_isStep 16 = .ok (.iconst 1, 1) := by decide +kernel
theorem dX6_isStep_17 : decode cX6_isStep 17 = .ok (.isub, 1) := by decide +kernel
theorem dX6_isStep_18 : decode cX6_isStep 18 = .ok (.invokestatic 87, 3) := by decide +kernel
theorem dX6_isStep_21 : decode cX6_isStep 21 = .ok (.ifCond .eq 7, 3) := by decide +kernel
theorem dX6_isStep_24 : decode cX6_isStep 24 = .ok (.iconst 1, 1) := by decide +kernel
theorem dX6_isStep_25 : decode cX6_isStep 25 = .ok (.goto 4, 3) := by decide +kernel
theorem dX6_isStep_28 : decode cX6_isStep 28 = .ok (.iconst 0, 1) := by decide +kernel
theorem dX6_isStep_29 : decode cX6_isStep 29 = .ok (.ireturn, 1) := by decide +kernel
set_option maxRecDepth 20000 in
theorem ggX6_wants_X6_isStep : GoodIn wsX6_wants wsX6_isStep := goodIn_r _ [9, 10, 11, 12, 13, 8, 14, 15, 16, 17, 18, 19, 20, 21, 22, 23, 24, 25, 26, 27, 28, 29, 30, 31, 32, 33, 34, 35, 36, 37, 38, 39, 40, 41, 42, 43, 44, 45, 46, 47] (by decide +kernel) (by decide +kernel)
set_option maxRecDepth 20000 in
theorem gX6_wants_X6_isStep : GoodIn wsX6_wants (wsV RX6 95 RX6 yX6_isStep wsX6_isStep) := goodIn_app (goodIn_of _ (by decide +kernel)) ggX6_wants_X6_isStep
set_option maxRecDepth 20000 in
theorem ggX6_wants_X6_isWork : GoodIn wsX6_wants wsX6_isWork := goodIn_r _ [14, 15, 16, 17, 8, 18, 19, 20, 21, 22, 23, 24, 25, 26, 27, 28, 29, 30, 31, 32, 33, 34, 35, 36, 37, 38, 39, 40, 41, 42, 43, 44, 45, 46, 47] (by decide +kernel) (by decide +kernel)
set_option maxRecDepth 20000 in
theorem gX6_wants_X6_isWork : GoodIn wsX6_wants (wsV RX6 91 RX6 yX6_isWork wsX6_isWork) := goodIn_app (goodIn_of _ (by decide +kernel)) ggX6_wants_X6_isWork
set_option maxRecDepth 20000 in
theorem ggX6_wants_X6_in : GoodIn wsX6_wants wsX6_in := goodIn_r _ [18] (by decide +kernel) (by decide +kernel)
set_option maxRecDepth 20000 in
theorem gX6_wants_X6_in : GoodIn wsX6_wants (va_wsS RX6 87 yX6_in wsX6_in) := goodIn_app (goodIn_of _ (by decide +kernel)) ggX6_wants_X6_in
theorem dX6_wants_0 : decode cX6_wants 0 = .ok (.aload_n 0, 1) := by decide +kernel
theorem dX6_wants_1 : decode cX6_wants 1 = .ok (.iconst 0, 1) := by decide +kernel
theorem dX6_wants_2 : decode cX6_wants 2 = .ok (.putfield 80, 3) := by decide +kernel
theorem dX6_wants_5 : decode cX6_wants 5 = .ok (.aload_n 0, 1) := by decide +kernel
theorem dX6_wants_6 : decode cX6_wants 6 = .ok (.iload_n 1, 1) := by decide +kernel
theorem dX6_wants_7 : decode cX6_wants 7 = .ok (.iload_n 2, 1) := by decide +kernel
theorem dX6_wants_8 : decode cX6_wants 8 = .ok (.invokevirtual 95, 3) := by decide +kernel
theorem dX6_wants_11 : decode cX6_wants 11 = .ok (.ifCond .ne 5, 3) := by decide +kernel
theorem dX6_wants_14 : decode cX6_wants 14 = .ok (.iconst (-1), 1) := by decide +kernel
theorem dX6_wants_15 : decode cX6_wants 15 = .ok (.ireturn, 1) := by decide +kernel
theorem dX6_wants_16 : decode cX6_wants 16 = .ok (.iload_n 3, 1) := by decide +kernel
theorem dX6_wants_17 : decode cX6_wants 17 = .ok (.ifCond .eq 21, 3) := by decide +kernel
theorem dX6_wants_20 : decode cX6_wants 20 = .ok (.aload_n 0, 1) := by decide +kernel
theorem dX6_wants_21 : decode cX6_wants 21 = .ok (.iload 4, 2) := by decide +kernel
theorem dX6_wants_23 : decode cX6_wants 23 = .ok (.invokevirtual 91, 3) := by decide +kernel
theorem dX6_wants_26 : decode cX6_wants 26 = .ok (.ifCond .eq 23, 3) := by decide +kernel
theorem dX6_wants_29 : decode cX6_wants 29 = .ok (.iload 4, 2) := by decide +kernel
theorem dX6_wants_31 : decode cX6_wants 31 = .ok (.iload_n 1, 1) := by decide +kernel
theorem dX6_wants_32 : decode cX6_wants 32 = .ok (.if_icmp .ne 20, 3) := by decide +kernel
theorem dX6_wants_35 : decode cX6_wants 35 = .ok (.goto 14, 3) := by decide +kernel
theorem dX6_wants_38 : decode cX6_wants 38 = .ok (.iload 4, 2) := by decide +kernel
theorem dX6_wants_40 : decode cX6_wants 40 = .ok (.iconst 0, 1) := by decide +kernel
theorem dX6_wants_41 : decode cX6_wants 41 = .ok (.bipush 9, 2) := by decide +kernel
theorem dX6_wants_43 : decode cX6_wants 43 = .ok (.invokestatic 87, 3) := by decide +kernel
theorem dX6_wants_46 : decode cX6_wants 46 = .ok (.ifCond .ne 6, 3) := by decide +kernel
theorem dX6_wants_49 : decode cX6_wants 49 = .ok (.bipush (-2), 2) := by decide +kernel
theorem dX6_wants_51 : decode cX6_wants 51 = .ok (.ireturn, 1) := by decide +kernel
theorem dX6_wants_52 : decode cX6_wants 52 = .ok (.aload_n 0, 1) := by decide +kernel
theorem dX6_wants_53 : decode cX6_wants 53 = .ok (.getfield 28, 3) := by decide +kernel
theorem dX6_wants_56 : decode cX6_wants 56 = .ok (.iload_n 1, 1) := by decide +kernel
theorem dX6_wants_57 : decode cX6_wants 57 = .ok (.baload, 1) := by decide +kernel
theorem dX6_wants_58 : decode cX6_wants 58 = .ok (.ifCond .eq 6, 3) := by decide +kernel
theorem dX6_wants_61 : decode cX6_wants 61 = .ok (.bipush (-3), 2) := by decide +kernel
theorem dX6_wants_63 : decode cX6_wants 63 = .ok (.ireturn, 1) := by decide +kernel
theorem dX6_wants_64 : decode cX6_wants 64 = .ok (.bipush 10, 2) := by decide +kernel
theorem dX6_wants_66 : decode cX6_wants 66 = .ok (.iload_n 1, 1) := by decide +kernel
theorem dX6_wants_67 : decode cX6_wants 67 = .ok (.imul, 1) := by decide +kernel
theorem dX6_wants_68 : decode cX6_wants 68 = .ok (.iload_n 2, 1) := by decide +kernel
theorem dX6_wants_69 : decode cX6_wants 69 = .ok (.iadd, 1) := by decide +kernel
theorem dX6_wants_70 : decode cX6_wants 70 = .ok (.istore 5, 2) := by decide +kernel
theorem dX6_wants_72 : decode cX6_wants 72 = .ok (.aload_n 0, 1) := by decide +kernel
theorem dX6_wants_73 : decode cX6_wants 73 = .ok (.getfield 44, 3) := by decide +kernel
theorem dX6_wants_76 : decode cX6_wants 76 = .ok (.iload 5, 2) := by decide +kernel
theorem dX6_wants_78 : decode cX6_wants 78 = .ok (.iaload, 1) := by decide +kernel
theorem dX6_wants_79 : decode cX6_wants 79 = .ok (.iconst 4, 1) := by decide +kernel
theorem dX6_wants_80 : decode cX6_wants 80 = .ok (.if_icmp .ne 6, 3) := by decide +kernel
theorem dX6_wants_83 : decode cX6_wants 83 = .ok (.bipush (-4), 2) := by decide +kernel
theorem dX6_wants_85 : decode cX6_wants 85 = .ok (.ireturn, 1) := by decide +kernel
theorem dX6_wants_86 : decode cX6_wants 86 = .ok (.aload_n 0, 1) := by decide +kernel
theorem dX6_wants_87 : decode cX6_wants 87 = .ok (.getfield 47, 3) := by decide +kernel
theorem dX6_wants_90 : decode cX6_wants 90 = .ok (.iconst 4, 1) := by decide +kernel
theorem dX6_wants_91 : decode cX6_wants 91 = .ok (.iload 5, 2) := by decide +kernel
theorem dX6_wants_93 : decode cX6_wants 93 = .ok (.imul, 1) := by decide +kernel
theorem dX6_wants_94 : decode cX6_wants 94 = .ok (.aload_n 0, 1) := by decide +kernel
theorem dX6_wants_95 : decode cX6_wants 95 = .ok (.getfield 44, 3) := by decide +kernel
theorem dX6_wants_98 : decode cX6_wants 98 = .ok (.iload 5, 2) := by decide +kernel
theorem dX6_wants_100 : decode cX6_wants 100 = .ok (.iaload, 1) := by decide +kernel
theorem dX6_wants_101 : decode cX6_wants 101 = .ok (.iadd, 1) := by decide +kernel
theorem dX6_wants_102 : decode cX6_wants 102 = .ok (.iload_n 3, 1) := by decide +kernel
theorem dX6_wants_103 : decode cX6_wants 103 = .ok (.ifCond .eq 11, 3) := by decide +kernel
theorem dX6_wants_106 : decode cX6_wants 106 = .ok (.bipush 100, 2) := by decide +kernel
theorem dX6_wants_108 : decode cX6_wants 108 = .ok (.iload 4, 2) := by decide +kernel
theorem dX6_wants_110 : decode cX6_wants 110 = .ok (.iadd, 1) := by decide +kernel
theorem dX6_wants_111 : decode cX6_wants 111 = .ok (.goto 5, 3) := by decide +kernel
theorem dX6_wants_114 : decode cX6_wants 114 = .ok (.iload 4, 2) := by decide +kernel
theorem dX6_wants_116 : decode cX6_wants 116 = .ok (.iastore, 1) := by decide +kernel
theorem dX6_wants_117 : decode cX6_wants 117 = .ok (.aload_n 0, 1) := by decide +kernel
theorem dX6_wants_118 : decode cX6_wants 118 = .ok (.getfield 44, 3) := by decide +kernel
theorem dX6_wants_121 : decode cX6_wants 121 = .ok (.iload 5, 2) := by decide +kernel
theorem dX6_wants_123 : decode cX6_wants 123 = .ok (.dup2, 1) := by decide +kernel
theorem dX6_wants_124 : decode cX6_wants 124 = .ok (.iaload, 1) := by decide +kernel
theorem dX6_wants_125 : decode cX6_wants 125 = .ok (.iconst 1, 1) := by decide +kernel
theorem dX6_wants_126 : decode cX6_wants 126 = .ok (.iadd, 1) := by decide +kernel
theorem dX6_wants_127 : decode cX6_wants 127 = .ok (.iastore, 1) := by decide +kernel
theorem dX6_wants_128 : decode cX6_wants 128 = .ok (.aload_n 0, 1) := by decide +kernel
theorem dX6_wants_129 : decode cX6_wants 129 = .ok (.getfield 44, 3) := by decide +kernel
theorem dX6_wants_132 : decode cX6_wants 132 = .ok (.iload 5, 2) := by decide +kernel
theorem dX6_wants_134 : decode cX6_wants 134 = .ok (.iaload, 1) := by decide +kernel
theorem dX6_wants_135 : decode cX6_wants 135 = .ok (.ireturn, 1) := by decide +kernel
set_option maxRecDepth 20000 in
theorem ggX6_sends_X6_isStep : GoodIn wsX6_sends wsX6_isStep := goodIn_r _ [9, 10, 11, 12, 13, 8, 14, 15, 16, 17, 18, 19, 20, 21, 22, 23, 24, 25, 26, 27, 28, 29, 30, 31, 32, 33, 34, 35, 36, 37, 38, 39, 40, 41, 42, 43, 44, 45, 46, 47] (by decide +kernel) (by decide +kernel)
set_option maxRecDepth 20000 in
theorem gX6_sends_X6_isStep : GoodIn wsX6_sends (wsV RX6 95 RX6 yX6_isStep wsX6_isStep) := goodIn_app (goodIn_of _ (by decide +kernel)) ggX6_sends_X6_isStep
set_option maxRecDepth 20000 in
theorem ggX6_sends_X6_isWork : GoodIn wsX6_sends wsX6_isWork := goodIn_r _ [14, 15, 16, 17, 8, 18, 19, 20, 21, 22, 23, 24, 25, 26, 27, 28, 29, 30, 31, 32, 33, 34, 35, 36, 37, 38, 39, 40, 41, 42, 43, 44, 45, 46, 47] (by decide +kernel) (by decide +kernel)
set_option maxRecDepth 20000 in
theorem gX6_sends_X6_isWork : GoodIn wsX6_sends (wsV RX6 91 RX6 yX6_isWork wsX6_isWork) := goodIn_app (goodIn_of _ (by decide +kernel)) ggX6_sends_X6_isWork
theorem dX6_sends_0 : decode cX6_sends 0 = .ok (.aload_n 0, 1) := by decide +kernel
theorem dX6_sends_1 : decode cX6_sends 1 = .ok (.iconst 0, 1) := by decide +kernel
theorem dX6_sends_2 : decode cX6_sends 2 = .ok (.putfield 80, 3) := by decide +kernel
theorem dX6_sends_5 : decode cX6_sends 5 = .ok (.aload_n 0, 1) := by decide +kernel
theorem dX6_sends_6 : decode cX6_sends 6 = .ok (.iload_n 1, 1) := by decide +kernel
theorem dX6_sends_7 : decode cX6_sends 7 = .ok (.iload_n 2, 1) := by decide +kernel
theorem dX6_sends_8 : decode cX6_sends 8 = .ok (.invokevirtual 95, 3) := by decide +kernel
theorem dX6_sends_11 : decode cX6_sends 11 = .ok (.ifCond .ne 5, 3) := by decide +kernel
theorem dX6_sends_14 : decode cX6_sends 14 = .ok (.iconst (-1), 1) := by decide +kernel
theorem dX6_sends_15 : decode cX6_sends 15 = .ok (.ireturn, 1) := by decide +kernel
theorem dX6_sends_16 : decode cX6_sends 16 = .ok (.aload_n 0, 1) := by decide +kernel
theorem dX6_sends_17 : decode cX6_sends 17 = .ok (.iload_n 3, 1) := by decide +kernel
theorem dX6_sends_18 : decode cX6_sends 18 = .ok (.invokevirtual 91, 3) := by decide +kernel
theorem dX6_sends_21 : decode cX6_sends 21 = .ok (.ifCond .eq 8, 3) := by decide +kernel
theorem dX6_sends_24 : decode cX6_sends 24 = .ok (.iload_n 3, 1) := by decide +kernel
theorem dX6_sends_25 : decode cX6_sends 25 = .ok (.iload_n 1, 1) := by decide +kernel
theorem dX6_sends_26 : decode cX6_sends 26 = .ok (.if_icmp .ne 6, 3) := by decide +kernel
theorem dX6_sends_29 : decode cX6_sends 29 = .ok (.bipush (-2), 2) := by decide +kernel
theorem dX6_sends_31 : decode cX6_sends 31 = .ok (.ireturn, 1) := by decide +kernel
theorem dX6_sends_32 : decode cX6_sends 32 = .ok (.aload_n 0, 1) := by decide +kernel
theorem dX6_sends_33 : decode cX6_sends 33 = .ok (.getfield 28, 3) := by decide +kernel
theorem dX6_sends_36 : decode cX6_sends 36 = .ok (.iload_n 1, 1) := by decide +kernel
theorem dX6_sends_37 : decode cX6_sends 37 = .ok (.baload, 1) := by decide +kernel
theorem dX6_sends_38 : decode cX6_sends 38 = .ok (.ifCond .eq 6, 3) := by decide +kernel
theorem dX6_sends_41 : decode cX6_sends 41 = .ok (.bipush (-3), 2) := by decide +kernel
theorem dX6_sends_43 : decode cX6_sends 43 = .ok (.ireturn, 1) := by decide +kernel
theorem dX6_sends_44 : decode cX6_sends 44 = .ok (.bipush 10, 2) := by decide +kernel
theorem dX6_sends_46 : decode cX6_sends 46 = .ok (.iload_n 1, 1) := by decide +kernel
theorem dX6_sends_47 : decode cX6_sends 47 = .ok (.imul, 1) := by decide +kernel
theorem dX6_sends_48 : decode cX6_sends 48 = .ok (.iload_n 2, 1) := by decide +kernel
theorem dX6_sends_49 : decode cX6_sends 49 = .ok (.iadd, 1) := by decide +kernel
theorem dX6_sends_50 : decode cX6_sends 50 = .ok (.istore 4, 2) := by decide +kernel
theorem dX6_sends_52 : decode cX6_sends 52 = .ok (.aload_n 0, 1) := by decide +kernel
theorem dX6_sends_53 : decode cX6_sends 53 = .ok (.getfield 50, 3) := by decide +kernel
theorem dX6_sends_56 : decode cX6_sends 56 = .ok (.iload 4, 2) := by decide +kernel
theorem dX6_sends_58 : decode cX6_sends 58 = .ok (.iaload, 1) := by decide +kernel
theorem dX6_sends_59 : decode cX6_sends 59 = .ok (.iconst 2, 1) := by decide +kernel
theorem dX6_sends_60 : decode cX6_sends 60 = .ok (.if_icmp .ne 6, 3) := by decide +kernel
theorem dX6_sends_63 : decode cX6_sends 63 = .ok (.bipush (-4), 2) := by decide +kernel
theorem dX6_sends_65 : decode cX6_sends 65 = .ok (.ireturn, 1) := by decide +kernel
theorem dX6_sends_66 : decode cX6_sends 66 = .ok (.aload_n 0, 1) := by decide +kernel
theorem dX6_sends_67 : decode cX6_sends 67 = .ok (.getfield 53, 3) := by decide +kernel
theorem dX6_sends_70 : decode cX6_sends 70 = .ok (.iconst 2, 1) := by decide +kernel
theorem dX6_sends_71 : decode cX6_sends 71 = .ok (.iload 4, 2) := by decide +kernel
theorem dX6_sends_73 : decode cX6_sends 73 = .ok (.imul, 1) := by decide +kernel
theorem dX6_sends_74 : decode cX6_sends 74 = .ok (.aload_n 0, 1) := by decide +kernel
theorem dX6_sends_75 : decode cX6_sends 75 = .ok (.getfield 50, 3) := by decide +kernel
theorem dX6_sends_78 : decode cX6_sends 78 = .ok (.iload 4, 2) := by decide +kernel
theorem dX6_sends_80 : decode cX6_sends 80 = .ok (.iaload, 1) := by decide +kernel
theorem dX6_sends_81 : decode cX6_sends 81 = .ok (.iadd, 1) := by decide +kernel
theorem dX6_sends_82 : decode cX6_sends 82 = .ok (.iload_n 3, 1) := by decide +kernel
theorem dX6_sends_83 : decode cX6_sends 83 = .ok (.iastore, 1) := by decide +kernel
theorem dX6_sends_84 : decode cX6_sends 84 = .ok (.aload_n 0, 1) := by decide +kernel
theorem dX6_sends_85 : decode cX6_sends 85 = .ok (.getfield 50, 3) := by decide +kernel
theorem dX6_sends_88 : decode cX6_sends 88 = .ok (.iload 4, 2) := by decide +kernel
theorem dX6_sends_90 : decode cX6_sends 90 = .ok (.dup2, 1) := by decide +kernel
theorem dX6_sends_91 : decode cX6_sends 91 = .ok (.iaload, 1) := by decide +kernel
theorem dX6_sends_92 : decode cX6_sends 92 = .ok (.iconst 1, 1) := by decide +kernel
theorem dX6_sends_93 : decode cX6_sends 93 = .ok (.iadd, 1) := by decide +kernel
theorem dX6_sends_94 : decode cX6_sends 94 = .ok (.iastore, 1) := by decide +kernel
theorem dX6_sends_95 : decode cX6_sends 95 = .ok (.aload_n 0, 1) := by decide +kernel
theorem dX6_sends_96 : decode cX6_sends 96 = .ok (.getfield 50, 3) := by decide +kernel
theorem dX6_sends_99 : decode cX6_sends 99 = .ok (.iload 4, 2) := by decide +kernel
theorem dX6_sends_101 : decode cX6_sends 101 = .ok (.iaload, 1) := by decide +kernel
theorem dX6_sends_102 : decode cX6_sends 102 = .ok (.ireturn, 1) := by decide +kernel
set_option maxRecDepth 20000 in
theorem ggX6_loses_X6_in : GoodIn wsX6_loses wsX6_in := goodIn_r _ [6] (by decide +kernel) (by decide +kernel)
end
section
set_option maxRecDepth 20000 in
theorem gX6_loses_X6_in : GoodIn wsX6_loses (va_wsS RX6 87 yX6_in wsX6_in) := goodIn_app (goodIn_of _ (by decide +kernel)) ggX6_loses_X6_in
theorem dX6_loses_0 : decode cX6_loses 0 = .ok (.aload_n 0, 1) := by decide +kernel
theorem dX6_loses_1 : decode cX6_loses 1 = .ok (.iconst 0, 1) := by decide +kernel
theorem dX6_loses_2 : decode cX6_loses 2 = .ok (.putfield 80, 3) := by decide +kernel
theorem dX6_loses_5 : decode cX6_loses 5 = .ok (.iload_n 1, 1) := by decide +kernel
theorem dX6_loses_6 : decode cX6_loses 6 = .ok (.iconst 0, 1) := by decide +kernel
theorem dX6_loses_7 : decode cX6_loses 7 = .ok (.bipush 100, 2) := by decide +kernel
theorem dX6_loses_9 : decode cX6_loses 9 = .ok (.invokestatic 87, 3) := by decide +kernel
theorem dX6_loses_12 : decode cX6_loses 12 = .ok (.ifCond .ne 6, 3) := by decide +kernel
theorem dX6_loses_15 : decode cX6_loses 15 = .ok (.bipush (-2), 2) := by decide +kernel
theorem dX6_loses_17 : decode cX6_loses 17 = .ok (.ireturn, 1) := by decide +kernel
theorem dX6_loses_18 : decode cX6_loses 18 = .ok (.aload_n 0, 1) := by decide +kernel
theorem dX6_loses_19 : decode cX6_loses 19 = .ok (.iload_n 1, 1) := by decide +kernel
theorem dX6_loses_20 : decode cX6_loses 20 = .ok (.putfield 99, 3) := by decide +kernel
theorem dX6_loses_23 : decode cX6_loses 23 = .ok (.iconst 1, 1) := by decide +kernel
theorem dX6_loses_24 : decode cX6_loses 24 = .ok (.ireturn, 1) := by decide +kernel
theorem dX6_ahead_0 : decode cX6_ahead 0 = .ok (.iconst 0, 1) := by decide +kernel
theorem dX6_ahead_1 : decode cX6_ahead 1 = .ok (.istore_n 3, 1) := by decide +kernel
theorem dX6_ahead_2 : decode cX6_ahead 2 = .ok (.iconst 0, 1) := by decide +kernel
theorem dX6_ahead_3 : decode cX6_ahead 3 = .ok (.istore 4, 2) := by decide +kernel
theorem dX6_ahead_5 : decode cX6_ahead 5 = .ok (.iload 4, 2) := by decide +kernel
theorem dX6_ahead_7 : decode cX6_ahead 7 = .ok (.aload_n 0, 1) := by decide +kernel
theorem dX6_ahead_8 : decode cX6_ahead 8 = .ok (.getfield 84, 3) := by decide +kernel
theorem dX6_ahead_11 : decode cX6_ahead 11 = .ok (.if_icmp .ge 64, 3) := by decide +kernel
theorem dX6_ahead_14 : decode cX6_ahead 14 = .ok (.iload_n 3, 1) := by decide +kernel
theorem dX6_ahead_15 : decode cX6_ahead 15 = .ok (.iload 4, 2) := by decide +kernel
theorem dX6_ahead_17 : decode cX6_ahead 17 = .ok (.iload_n 2, 1) := by decide +kernel
theorem dX6_ahead_18 : decode cX6_ahead 18 = .ok (.if_icmp .eq 48, 3) := by decide +kernel
theorem dX6_ahead_21 : decode cX6_ahead 21 = .ok (.aload_n 0, 1) := by decide +kernel
theorem dX6_ahead_22 : decode cX6_ahead 22 = .ok (.getfield 38, 3) := by decide +kernel
theorem dX6_ahead_25 : decode cX6_ahead 25 = .ok (.iload 4, 2) := by decide +kernel
theorem dX6_ahead_27 : decode cX6_ahead 27 = .ok (.iaload, 1) := by decide +kernel
theorem dX6_ahead_28 : decode cX6_ahead 28 = .ok (.iload_n 1, 1) := by decide +kernel
theorem dX6_ahead_29 : decode cX6_ahead 29 = .ok (.iconst 1, 1) := by decide +kernel
theorem dX6_ahead_30 : decode cX6_ahead 30 = .ok (.iadd, 1) := by decide +kernel
theorem dX6_ahead_31 : decode cX6_ahead 31 = .ok (.if_icmp .ne 35, 3) := by decide +kernel
theorem dX6_ahead_34 : decode cX6_ahead 34 = .ok (.aload_n 0, 1) := by decide +kernel
theorem dX6_ahead_35 : decode cX6_ahead 35 = .ok (.getfield 38, 3) := by decide +kernel
theorem dX6_ahead_38 : decode cX6_ahead 38 = .ok (.iload_n 2, 1) := by decide +kernel
theorem dX6_ahead_39 : decode cX6_ahead 39 = .ok (.iaload, 1) := by decide +kernel
theorem dX6_ahead_40 : decode cX6_ahead 40 = .ok (.iload_n 1, 1) := by decide +kernel
theorem dX6_ahead_41 : decode cX6_ahead 41 = .ok (.iconst 1, 1) := by decide +kernel
theorem dX6_ahead_42 : decode cX6_ahead 42 = .ok (.iadd, 1) := by decide +kernel
theorem dX6_ahead_43 : decode cX6_ahead 43 = .ok (.if_icmp .ne 19, 3) := by decide +kernel
theorem dX6_ahead_46 : decode cX6_ahead 46 = .ok (.aload_n 0, 1) := by decide +kernel
theorem dX6_ahead_47 : decode cX6_ahead 47 = .ok (.getfield 41, 3) := by decide +kernel
theorem dX6_ahead_50 : decode cX6_ahead 50 = .ok (.iload 4, 2) := by decide +kernel
theorem dX6_ahead_52 : decode cX6_ahead 52 = .ok (.iaload, 1) := by decide +kernel
theorem dX6_ahead_53 : decode cX6_ahead 53 = .ok (.aload_n 0, 1) := by decide +kernel
theorem dX6_ahead_54 : decode cX6_ahead 54 = .ok (.getfield 41, 3) := by decide +kernel
theorem dX6_ahead_57 : decode cX6_ahead 57 = .ok (.iload_n 2, 1) := by decide +kernel
theorem dX6_ahead_58 : decode cX6_ahead 58 = .ok (.iaload, 1) := by decide +kernel
theorem dX6_ahead_59 : decode cX6_ahead 59 = .ok (.if_icmp .ge 7, 3) := by decide +kernel
theorem dX6_ahead_62 : decode cX6_ahead 62 = .ok (.iconst 1, 1) := by decide +kernel
theorem dX6_ahead_63 : decode cX6_ahead 63 = .ok (.goto 4, 3) := by decide +kernel
theorem dX6_ahead_66 : decode cX6_ahead 66 = .ok (.iconst 0, 1) := by decide +kernel
theorem dX6_ahead_67 : decode cX6_ahead 67 = .ok (.iadd, 1) := by decide +kernel
theorem dX6_ahead_68 : decode cX6_ahead 68 = .ok (.istore_n 3, 1) := by decide +kernel
theorem dX6_ahead_69 : decode cX6_ahead 69 = .ok (.iinc 4 1, 3) := by decide +kernel
theorem dX6_ahead_72 : decode cX6_ahead 72 = .ok (.goto (-67), 3) := by decide +kernel
theorem dX6_ahead_75 : decode cX6_ahead 75 = .ok (.iload_n 3, 1) := by decide +kernel
theorem dX6_ahead_76 : decode cX6_ahead 76 = .ok (.ireturn, 1) := by decide +kernel
set_option maxRecDepth 20000 in
theorem ggX6_takes_X6_ahead : GoodIn wsX6_takes wsX6_ahead := goodIn_r _ [10, 11, 2, 4, 12, 13, 14, 15, 16, 17, 18, 19, 20, 21, 22, 23, 24, 25, 26, 27, 28, 29, 30, 31, 32, 33, 34, 35, 36, 37, 38, 39, 40] (by decide +kernel) (by decide +kernel)
set_option maxRecDepth 20000 in
theorem gX6_takes_X6_ahead : GoodIn wsX6_takes (wsV RX6 102 RX6 yX6_ahead wsX6_ahead) := goodIn_app (goodIn_of _ (by decide +kernel)) ggX6_takes_X6_ahead
theorem dX6_takes_0 : decode cX6_takes 0 = .ok (.aload_n 0, 1) := by decide +kernel
theorem dX6_takes_1 : decode cX6_takes 1 = .ok (.getfield 56, 3) := by decide +kernel
theorem dX6_takes_4 : decode cX6_takes 4 = .ok (.iload_n 2, 1) := by decide +kernel
theorem dX6_takes_5 : decode cX6_takes 5 = .ok (.iaload, 1) := by decide +kernel
theorem dX6_takes_6 : decode cX6_takes 6 = .ok (.iload_n 1, 1) := by decide +kernel
theorem dX6_takes_7 : decode cX6_takes 7 = .ok (.iconst 1, 1) := by decide +kernel
theorem dX6_takes_8 : decode cX6_takes 8 = .ok (.iadd, 1) := by decide +kernel
theorem dX6_takes_9 : decode cX6_takes 9 = .ok (.if_icmp .eq 21, 3) := by decide +kernel
theorem dX6_takes_12 : decode cX6_takes 12 = .ok (.aload_n 0, 1) := by decide +kernel
theorem dX6_takes_13 : decode cX6_takes 13 = .ok (.getfield 56, 3) := by decide +kernel
theorem dX6_takes_16 : decode cX6_takes 16 = .ok (.iload_n 2, 1) := by decide +kernel
theorem dX6_takes_17 : decode cX6_takes 17 = .ok (.iaload, 1) := by decide +kernel
theorem dX6_takes_18 : decode cX6_takes 18 = .ok (.ifCond .ne 40, 3) := by decide +kernel
theorem dX6_takes_21 : decode cX6_takes 21 = .ok (.aload_n 0, 1) := by decide +kernel
theorem dX6_takes_22 : decode cX6_takes 22 = .ok (.iload_n 2, 1) := by decide +kernel
theorem dX6_takes_23 : decode cX6_takes 23 = .ok (.iload_n 1, 1) := by decide +kernel
theorem dX6_takes_24 : decode cX6_takes 24 = .ok (.invokevirtual 102, 3) := by decide +kernel
theorem dX6_takes_27 : decode cX6_takes 27 = .ok (.ifCond .ne 31, 3) := by decide +kernel
theorem dX6_takes_30 : decode cX6_takes 30 = .ok (.aload_n 0, 1) := by decide +kernel
theorem dX6_takes_31 : decode cX6_takes 31 = .ok (.getfield 56, 3) := by decide +kernel
theorem dX6_takes_34 : decode cX6_takes 34 = .ok (.iload_n 2, 1) := by decide +kernel
theorem dX6_takes_35 : decode cX6_takes 35 = .ok (.iload_n 1, 1) := by decide +kernel
theorem dX6_takes_36 : decode cX6_takes 36 = .ok (.iconst 1, 1) := by decide +kernel
theorem dX6_takes_37 : decode cX6_takes 37 = .ok (.iadd, 1) := by decide +kernel
theorem dX6_takes_38 : decode cX6_takes 38 = .ok (.iastore, 1) := by decide +kernel
theorem dX6_takes_39 : decode cX6_takes 39 = .ok (.aload_n 0, 1) := by decide +kernel
theorem dX6_takes_40 : decode cX6_takes 40 = .ok (.getfield 38, 3) := by decide +kernel
theorem dX6_takes_43 : decode cX6_takes 43 = .ok (.iload_n 1, 1) := by decide +kernel
theorem dX6_takes_44 : decode cX6_takes 44 = .ok (.iconst 0, 1) := by decide +kernel
theorem dX6_takes_45 : decode cX6_takes 45 = .ok (.iastore, 1) := by decide +kernel
theorem dX6_takes_46 : decode cX6_takes 46 = .ok (.aload_n 0, 1) := by decide +kernel
theorem dX6_takes_47 : decode cX6_takes 47 = .ok (.getfield 22, 3) := by decide +kernel
theorem dX6_takes_50 : decode cX6_takes 50 = .ok (.iload_n 1, 1) := by decide +kernel
theorem dX6_takes_51 : decode cX6_takes 51 = .ok (.dup2, 1) := by decide +kernel
theorem dX6_takes_52 : decode cX6_takes 52 = .ok (.iaload, 1) := by decide +kernel
theorem dX6_takes_53 : decode cX6_takes 53 = .ok (.iconst 1, 1) := by decide +kernel
theorem dX6_takes_54 : decode cX6_takes 54 = .ok (.iadd, 1) := by decide +kernel
theorem dX6_takes_55 : decode cX6_takes 55 = .ok (.iastore, 1) := by decide +kernel
theorem dX6_takes_56 : decode cX6_takes 56 = .ok (.iconst 1, 1) := by decide +kernel
theorem dX6_takes_57 : decode cX6_takes 57 = .ok (.ireturn, 1) := by decide +kernel
theorem dX6_takes_58 : decode cX6_takes 58 = .ok (.aload_n 0, 1) := by decide +kernel
theorem dX6_takes_59 : decode cX6_takes 59 = .ok (.getfield 38, 3) := by decide +kernel
theorem dX6_takes_62 : decode cX6_takes 62 = .ok (.iload_n 1, 1) := by decide +kernel
theorem dX6_takes_63 : decode cX6_takes 63 = .ok (.iaload, 1) := by decide +kernel
theorem dX6_takes_64 : decode cX6_takes 64 = .ok (.iload_n 2, 1) := by decide +kernel
theorem dX6_takes_65 : decode cX6_takes 65 = .ok (.iconst 1, 1) := by decide +kernel
theorem dX6_takes_66 : decode cX6_takes 66 = .ok (.iadd, 1) := by decide +kernel
theorem dX6_takes_67 : decode cX6_takes 67 = .ok (.if_icmp .eq 32, 3) := by decide +kernel
theorem dX6_takes_70 : decode cX6_takes 70 = .ok (.aload_n 0, 1) := by decide +kernel
theorem dX6_takes_71 : decode cX6_takes 71 = .ok (.getfield 38, 3) := by decide +kernel
theorem dX6_takes_74 : decode cX6_takes 74 = .ok (.iload_n 1, 1) := by decide +kernel
theorem dX6_takes_75 : decode cX6_takes 75 = .ok (.iload_n 2, 1) := by decide +kernel
theorem dX6_takes_76 : decode cX6_takes 76 = .ok (.iconst 1, 1) := by decide +kernel
theorem dX6_takes_77 : decode cX6_takes 77 = .ok (.iadd, 1) := by decide +kernel
theorem dX6_takes_78 : decode cX6_takes 78 = .ok (.iastore, 1) := by decide +kernel
theorem dX6_takes_79 : decode cX6_takes 79 = .ok (.aload_n 0, 1) := by decide +kernel
theorem dX6_takes_80 : decode cX6_takes 80 = .ok (.getfield 41, 3) := by decide +kernel
theorem dX6_takes_83 : decode cX6_takes 83 = .ok (.iload_n 1, 1) := by decide +kernel
theorem dX6_takes_84 : decode cX6_takes 84 = .ok (.aload_n 0, 1) := by decide +kernel
theorem dX6_takes_85 : decode cX6_takes 85 = .ok (.getfield 106, 3) := by decide +kernel
theorem dX6_takes_88 : decode cX6_takes 88 = .ok (.iastore, 1) := by decide +kernel
theorem dX6_takes_89 : decode cX6_takes 89 = .ok (.aload_n 0, 1) := by decide +kernel
theorem dX6_takes_90 : decode cX6_takes 90 = .ok (.dup, 1) := by decide +kernel
theorem dX6_takes_91 : decode cX6_takes 91 = .ok (.getfield 106, 3) := by decide +kernel
theorem dX6_takes_94 : decode cX6_takes 94 = .ok (.iconst 1, 1) := by decide +kernel
theorem dX6_takes_95 : decode cX6_takes 95 = .ok (.iadd, 1) := by decide +kernel
theorem dX6_takes_96 : decode cX6_takes 96 = .ok (.putfield 106, 3) := by decide +kernel
theorem dX6_takes_99 : decode cX6_takes 99 = .ok (.iconst 3, 1) := by decide +kernel
theorem dX6_takes_100 : decode cX6_takes 100 = .ok (.ireturn, 1) := by decide +kernel
theorem dX6_hears_0 : decode cX6_hears 0 = .ok (.bipush 12, 2) := by decide +kernel
theorem dX6_hears_2 : decode cX6_hears 2 = .ok (.iload_n 2, 1) := by decide +kernel
theorem dX6_hears_3 : decode cX6_hears 3 = .ok (.imul, 1) := by decide +kernel
theorem dX6_hears_4 : decode cX6_hears 4 = .ok (.iload_n 1, 1) := by decide +kernel
theorem dX6_hears_5 : decode cX6_hears 5 = .ok (.iadd, 1) := by decide +kernel
theorem dX6_hears_6 : decode cX6_hears 6 = .ok (.istore_n 3, 1) := by decide +kernel
theorem dX6_hears_7 : decode cX6_hears 7 = .ok (.aload_n 0, 1) := by decide +kernel
theorem dX6_hears_8 : decode cX6_hears 8 = .ok (.getfield 62, 3) := by decide +kernel
theorem dX6_hears_11 : decode cX6_hears 11 = .ok (.iload_n 3, 1) := by decide +kernel
theorem dX6_hears_12 : decode cX6_hears 12 = .ok (.iaload, 1) := by decide +kernel
theorem dX6_hears_13 : decode cX6_hears 13 = .ok (.ifCond .le 25, 3) := by decide +kernel
theorem dX6_hears_16 : decode cX6_hears 16 = .ok (.aload_n 0, 1) := by decide +kernel
theorem dX6_hears_17 : decode cX6_hears 17 = .ok (.getfield 62, 3) := by decide +kernel
theorem dX6_hears_20 : decode cX6_hears 20 = .ok (.iload_n 3, 1) := by decide +kernel
theorem dX6_hears_21 : decode cX6_hears 21 = .ok (.dup2, 1) := by decide +kernel
theorem dX6_hears_22 : decode cX6_hears 22 = .ok (.iaload, 1) := by decide +kernel
theorem dX6_hears_23 : decode cX6_hears 23 = .ok (.iconst 1, 1) := by decide +kernel
theorem dX6_hears_24 : decode cX6_hears 24 = .ok (.isub, 1) := by decide +kernel
theorem dX6_hears_25 : decode cX6_hears 25 = .ok (.iastore, 1) := by decide +kernel
theorem dX6_hears_26 : decode cX6_hears 26 = .ok (.aload_n 0, 1) := by decide +kernel
theorem dX6_hears_27 : decode cX6_hears 27 = .ok (.getfield 22, 3) := by decide +kernel
theorem dX6_hears_30 : decode cX6_hears 30 = .ok (.iload_n 1, 1) := by decide +kernel
theorem dX6_hears_31 : decode cX6_hears 31 = .ok (.dup2, 1) := by decide +kernel
theorem dX6_hears_32 : decode cX6_hears 32 = .ok (.iaload, 1) := by decide +kernel
theorem dX6_hears_33 : decode cX6_hears 33 = .ok (.iconst 1, 1) := by decide +kernel
theorem dX6_hears_34 : decode cX6_hears 34 = .ok (.iadd, 1) := by decide +kernel
theorem dX6_hears_35 : decode cX6_hears 35 = .ok (.iastore, 1) := by decide +kernel
theorem dX6_hears_36 : decode cX6_hears 36 = .ok (.iconst 1, 1) := by decide +kernel
theorem dX6_hears_37 : decode cX6_hears 37 = .ok (.ireturn, 1) := by decide +kernel
theorem dX6_hears_38 : decode cX6_hears 38 = .ok (.aload_n 0, 1) := by decide +kernel
theorem dX6_hears_39 : decode cX6_hears 39 = .ok (.getfield 65, 3) := by decide +kernel
theorem dX6_hears_42 : decode cX6_hears 42 = .ok (.iload_n 3, 1) := by decide +kernel
theorem dX6_hears_43 : decode cX6_hears 43 = .ok (.iaload, 1) := by decide +kernel
theorem dX6_hears_44 : decode cX6_hears 44 = .ok (.ifCond .ne 5, 3) := by decide +kernel
theorem dX6_hears_47 : decode cX6_hears 47 = .ok (.iconst 4, 1) := by decide +kernel
theorem dX6_hears_48 : decode cX6_hears 48 = .ok (.ireturn, 1) := by decide +kernel
theorem dX6_hears_49 : decode cX6_hears 49 = .ok (.aload_n 0, 1) := by decide +kernel
theorem dX6_hears_50 : decode cX6_hears 50 = .ok (.getfield 65, 3) := by decide +kernel
theorem dX6_hears_53 : decode cX6_hears 53 = .ok (.iload_n 3, 1) := by decide +kernel
theorem dX6_hears_54 : decode cX6_hears 54 = .ok (.dup2, 1) := by decide +kernel
theorem dX6_hears_55 : decode cX6_hears 55 = .ok (.iaload, 1) := by decide +kernel
theorem dX6_hears_56 : decode cX6_hears 56 = .ok (.iconst 1, 1) := by decide +kernel
theorem dX6_hears_57 : decode cX6_hears 57 = .ok (.isub, 1) := by decide +kernel
theorem dX6_hears_58 : decode cX6_hears 58 = .ok (.iastore, 1) := by decide +kernel
theorem dX6_hears_59 : decode cX6_hears 59 = .ok (.aload_n 0, 1) := by decide +kernel
theorem dX6_hears_60 : decode cX6_hears 60 = .ok (.getfield 62, 3) := by decide +kernel
theorem dX6_hears_63 : decode cX6_hears 63 = .ok (.iload_n 3, 1) := by decide +kernel
theorem dX6_hears_64 : decode cX6_hears 64 = .ok (.dup2, 1) := by decide +kernel
theorem dX6_hears_65 : decode cX6_hears 65 = .ok (.iaload, 1) := by decide +kernel
theorem dX6_hears_66 : decode cX6_hears 66 = .ok (.iconst 1, 1) := by decide +kernel
theorem dX6_hears_67 : decode cX6_hears 67 = .ok (.iadd, 1) := by decide +kernel
theorem dX6_hears_68 : decode cX6_hears 68 = .ok (.iastore, 1) := by decide +kernel
theorem dX6_hears_69 : decode cX6_hears 69 = .ok (.aload_n 0, 1) := by decide +kernel
theorem dX6_hears_70 : decode cX6_hears 70 = .ok (.getfield 32, 3) := by decide +kernel
theorem dX6_hears_73 : decode cX6_hears 73 = .ok (.iload_n 1, 1) := by decide +kernel
theorem dX6_hears_74 : decode cX6_hears 74 = .ok (.dup2, 1) := by decide +kernel
theorem dX6_hears_75 : decode cX6_hears 75 = .ok (.iaload, 1) := by decide +kernel
theorem dX6_hears_76 : decode cX6_hears 76 = .ok (.iconst 1, 1) := by decide +kernel
theorem dX6_hears_77 : decode cX6_hears 77 = .ok (.iadd, 1) := by decide +kernel
theorem dX6_hears_78 : decode cX6_hears 78 = .ok (.iastore, 1) := by decide +kernel
theorem dX6_hears_79 : decode cX6_hears 79 = .ok (.iconst 5, 1) := by decide +kernel
theorem dX6_hears_80 : decode cX6_hears 80 = .ok (.ireturn, 1) := by decide +kernel
theorem dX6_frees_0 : decode cX6_frees 0 = .ok (.iconst 0, 1) := by decide +kernel
theorem dX6_frees_1 : decode cX6_frees 1 = .ok (.istore_n 2, 1) := by decide +kernel
theorem dX6_frees_2 : decode cX6_frees 2 = .ok (.iload_n 2, 1) := by decide +kernel
theorem dX6_frees_3 : decode cX6_frees 3 = .ok (.bipush 10, 2) := by decide +kernel
theorem dX6_frees_5 : decode cX6_frees 5 = .ok (.if_icmp .ge 37, 3) := by decide +kernel
theorem dX6_frees_8 : decode cX6_frees 8 = .ok (.aload_n 0, 1) := by decide +kernel
theorem dX6_frees_9 : decode cX6_frees 9 = .ok (.getfield 56, 3) := by decide +kernel
theorem dX6_frees_12 : decode cX6_frees 12 = .ok (.iload_n 2, 1) := by decide +kernel
theorem dX6_frees_13 : decode cX6_frees 13 = .ok (.aload_n 0, 1) := by decide +kernel
theorem dX6_frees_14 : decode cX6_frees 14 = .ok (.getfield 56, 3) := by decide +kernel
theorem dX6_frees_17 : decode cX6_frees 17 = .ok (.iload_n 2, 1) := by decide +kernel
theorem dX6_frees_18 : decode cX6_frees 18 = .ok (.iaload, 1) := by decide +kernel
theorem dX6_frees_19 : decode cX6_frees 19 = .ok (.iload_n 1, 1) := by decide +kernel
theorem dX6_frees_20 : decode cX6_frees 20 = .ok (.iconst 1, 1) := by decide +kernel
theorem dX6_frees_21 : decode cX6_frees 21 = .ok (.iadd, 1) := by decide +kernel
theorem dX6_frees_22 : decode cX6_frees 22 = .ok (.if_icmp .ne 7, 3) := by decide +kernel
theorem dX6_frees_25 : decode cX6_frees 25 = .ok (.iconst 0, 1) := by decide +kernel
theorem dX6_frees_26 : decode cX6_frees 26 = .ok (.goto 9, 3) := by decide +kernel
theorem dX6_frees_29 : decode cX6_frees 29 = .ok (.aload_n 0, 1) := by decide +kernel
theorem dX6_frees_30 : decode cX6_frees 30 = .ok (.getfield 56, 3) := by decide +kernel
theorem dX6_frees_33 : decode cX6_frees 33 = .ok (.iload_n 2, 1) := by decide +kernel
theorem dX6_frees_34 : decode cX6_frees 34 = .ok (.iaload, 1) := by decide +kernel
theorem dX6_frees_35 : decode cX6_frees 35 = .ok (.iastore, 1) := by decide +kernel
theorem dX6_frees_36 : decode cX6_frees 36 = .ok (.iinc 2 1, 3) := by decide +kernel
theorem dX6_frees_39 : decode cX6_frees 39 = .ok (.goto (-37), 3) := by decide +kernel
theorem dX6_frees_42 : decode cX6_frees 42 = .ok (.aload_n 0, 1) := by decide +kernel
theorem dX6_frees_43 : decode cX6_frees 43 = .ok (.getfield 38, 3) := by decide +kernel
theorem dX6_frees_46 : decode cX6_frees 46 = .ok (.iload_n 1, 1) := by decide +kernel
theorem dX6_frees_47 : decode cX6_frees 47 = .ok (.iconst 0, 1) := by decide +kernel
theorem dX6_frees_48 : decode cX6_frees 48 = .ok (.iastore, 1) := by decide +kernel
theorem dX6_frees_49 : decode cX6_frees 49 = .ok (.iconst 0, 1) := by decide +kernel
theorem dX6_frees_50 : decode cX6_frees 50 = .ok (.istore_n 2, 1) := by decide +kernel
theorem dX6_frees_51 : decode cX6_frees 51 = .ok (.iconst 0, 1) := by decide +kernel
theorem dX6_frees_52 : decode cX6_frees 52 = .ok (.istore_n 3, 1) := by decide +kernel
theorem dX6_frees_53 : decode cX6_frees 53 = .ok (.iload_n 3, 1) := by decide +kernel
theorem dX6_frees_54 : decode cX6_frees 54 = .ok (.aload_n 0, 1) := by decide +kernel
theorem dX6_frees_55 : decode cX6_frees 55 = .ok (.getfield 109, 3) := by decide +kernel
theorem dX6_frees_58 : decode cX6_frees 58 = .ok (.if_icmp .ge 61, 3) := by decide +kernel
theorem dX6_frees_61 : decode cX6_frees 61 = .ok (.aload_n 0, 1) := by decide +kernel
theorem dX6_frees_62 : decode cX6_frees 62 = .ok (.getfield 68, 3) := by decide +kernel
theorem dX6_frees_65 : decode cX6_frees 65 = .ok (.iload_n 3, 1) := by decide +kernel
theorem dX6_frees_66 : decode cX6_frees 66 = .ok (.iaload, 1) := by decide +kernel
theorem dX6_frees_67 : decode cX6_frees 67 = .ok (.iload_n 1, 1) := by decide +kernel
theorem dX6_frees_68 : decode cX6_frees 68 = .ok (.if_icmp .ne 6, 3) := by decide +kernel
theorem dX6_frees_71 : decode cX6_frees 71 = .ok (.goto 42, 3) := by decide +kernel
theorem dX6_frees_74 : decode cX6_frees 74 = .ok (.aload_n 0, 1) := by decide +kernel
theorem dX6_frees_75 : decode cX6_frees 75 = .ok (.getfield 68, 3) := by decide +kernel
theorem dX6_frees_78 : decode cX6_frees 78 = .ok (.iload_n 2, 1) := by decide +kernel
theorem dX6_frees_79 : decode cX6_frees 79 = .ok (.aload_n 0, 1) := by decide +kernel
theorem dX6_frees_80 : decode cX6_frees 80 = .ok (.getfield 68, 3) := by decide +kernel
theorem dX6_frees_83 : decode cX6_frees 83 = .ok (.iload_n 3, 1) := by decide +kernel
theorem dX6_frees_84 : decode cX6_frees 84 = .ok (.iaload, 1) := by decide +kernel
theorem dX6_frees_85 : decode cX6_frees 85 = .ok (.iastore, 1) := by decide +kernel
theorem dX6_frees_86 : decode cX6_frees 86 = .ok (.aload_n 0, 1) := by decide +kernel
theorem dX6_frees_87 : decode cX6_frees 87 = .ok (.getfield 71, 3) := by decide +kernel
theorem dX6_frees_90 : decode cX6_frees 90 = .ok (.iload_n 2, 1) := by decide +kernel
theorem dX6_frees_91 : decode cX6_frees 91 = .ok (.aload_n 0, 1) := by decide +kernel
theorem dX6_frees_92 : decode cX6_frees 92 = .ok (.getfield 71, 3) := by decide +kernel
theorem dX6_frees_95 : decode cX6_frees 95 = .ok (.iload_n 3, 1) := by decide +kernel
theorem dX6_frees_96 : decode cX6_frees 96 = .ok (.iaload, 1) := by decide +kernel
theorem dX6_frees_97 : decode cX6_frees 97 = .ok (.iastore, 1) := by decide +kernel
theorem dX6_frees_98 : decode cX6_frees 98 = .ok (.aload_n 0, 1) := by decide +kernel
theorem dX6_frees_99 : decode cX6_frees 99 = .ok (.getfield 74, 3) := by decide +kernel
theorem dX6_frees_102 : decode cX6_frees 102 = .ok (.iload_n 2, 1) := by decide +kernel
theorem dX6_frees_103 : decode cX6_frees 103 = .ok (.aload_n 0, 1) := by decide +kernel
theorem dX6_frees_104 : decode cX6_frees 104 = .ok (.getfield 74, 3) := by decide +kernel
theorem dX6_frees_107 : decode cX6_frees 107 = .ok (.iload_n 3, 1) := by decide +kernel
theorem dX6_frees_108 : decode cX6_frees 108 = .ok (.iaload, 1) := by decide +kernel
theorem dX6_frees_109 : decode cX6_frees 109 = .ok (.iastore, 1) := by decide +kernel
theorem dX6_frees_110 : decode cX6_frees 110 = .ok (.iinc 2 1, 3) := by decide +kernel
theorem dX6_frees_113 : decode cX6_frees 113 = .ok (.iinc 3 1, 3) := by decide +kernel
theorem dX6_frees_116 : decode cX6_frees 116 = .ok (.goto (-63), 3) := by decide +kernel
theorem dX6_frees_119 : decode cX6_frees 119 = .ok (.aload_n 0, 1) := by decide +kernel
theorem dX6_frees_120 : decode cX6_frees 120 = .ok (.iload_n 2, 1) := by decide +kernel
theorem dX6_frees_121 : decode cX6_frees 121 = .ok (.putfield 109, 3) := by decide +kernel
theorem dX6_frees_124 : decode cX6_frees 124 = .ok (.return_, 1) := by decide +kernel
set_option maxRecDepth 20000 in
theorem ggX6_undo_X6_frees : GoodIn wsX6_undo wsX6_frees := goodIn_r _ [11, 12, 13, 1, 2, 4, 5, 14, 15, 16, 17, 18, 19, 20, 21, 22, 23, 24, 25, 26, 27, 28, 29, 30, 31, 32, 33, 34, 35, 36, 37, 38, 39, 40, 41, 42] (by decide +kernel) (by decide +kernel)
set_option maxRecDepth 20000 in
theorem gX6_undo_X6_frees : GoodIn wsX6_undo (wsV RX6 112 RX6 yX6_frees wsX6_frees) := goodIn_app (goodIn_of _ (by decide +kernel)) ggX6_undo_X6_frees
theorem dX6_undo_0 : decode cX6_undo 0 = .ok (.aload_n 0, 1) := by decide +kernel
theorem dX6_undo_1 : decode cX6_undo 1 = .ok (.getfield 109, 3) := by decide +kernel
theorem dX6_undo_4 : decode cX6_undo 4 = .ok (.iconst 1, 1) := by decide +kernel
theorem dX6_undo_5 : decode cX6_undo 5 = .ok (.isub, 1) := by decide +kernel
theorem dX6_undo_6 : decode cX6_undo 6 = .ok (.istore_n 3, 1) := by decide +kernel
theorem dX6_undo_7 : decode cX6_undo 7 = .ok (.iload_n 3, 1) := by decide +kernel
theorem dX6_undo_8 : decode cX6_undo 8 = .ok (.ifCond .lt 36, 3) := by decide +kernel
theorem dX6_undo_11 : decode cX6_undo 11 = .ok (.aload_n 0, 1) := by decide +kernel
theorem dX6_undo_12 : decode cX6_undo 12 = .ok (.getfield 68, 3) := by decide +kernel
theorem dX6_undo_15 : decode cX6_undo 15 = .ok (.iload_n 3, 1) := by decide +kernel
theorem dX6_undo_16 : decode cX6_undo 16 = .ok (.iaload, 1) := by decide +kernel
theorem dX6_undo_17 : decode cX6_undo 17 = .ok (.iload_n 1, 1) := by decide +kernel
theorem dX6_undo_18 : decode cX6_undo 18 = .ok (.if_icmp .ne 20, 3) := by decide +kernel
theorem dX6_undo_21 : decode cX6_undo 21 = .ok (.aload_n 0, 1) := by decide +kernel
theorem dX6_undo_22 : decode cX6_undo 22 = .ok (.getfield 59, 3) := by decide +kernel
theorem dX6_undo_25 : decode cX6_undo 25 = .ok (.aload_n 0, 1) := by decide +kernel
theorem dX6_undo_26 : decode cX6_undo 26 = .ok (.getfield 71, 3) := by decide +kernel
theorem dX6_undo_29 : decode cX6_undo 29 = .ok (.iload_n 3, 1) := by decide +kernel
theorem dX6_undo_30 : decode cX6_undo 30 = .ok (.iaload, 1) := by decide +kernel
theorem dX6_undo_31 : decode cX6_undo 31 = .ok (.aload_n 0, 1) := by decide +kernel
theorem dX6_undo_32 : decode cX6_undo 32 = .ok (.getfield 74, 3) := by decide +kernel
theorem dX6_undo_35 : decode cX6_undo 35 = .ok (.iload_n 3, 1) := by decide +kernel
theorem dX6_undo_36 : decode cX6_undo 36 = .ok (.iaload, 1) := by decide +kernel
theorem dX6_undo_37 : decode cX6_undo 37 = .ok (.iastore, 1) := by decide +kernel
theorem dX6_undo_38 : decode cX6_undo 38 = .ok (.iinc 3 (-1), 3) := by decide +kernel
theorem dX6_undo_41 : decode cX6_undo 41 = .ok (.goto (-34), 3) := by decide +kernel
theorem dX6_undo_44 : decode cX6_undo 44 = .ok (.aload_n 0, 1) := by decide +kernel
theorem dX6_undo_45 : decode cX6_undo 45 = .ok (.iload_n 1, 1) := by decide +kernel
theorem dX6_undo_46 : decode cX6_undo 46 = .ok (.invokevirtual 112, 3) := by decide +kernel
theorem dX6_undo_49 : decode cX6_undo 49 = .ok (.aload_n 0, 1) := by decide +kernel
theorem dX6_undo_50 : decode cX6_undo 50 = .ok (.getfield 16, 3) := by decide +kernel
theorem dX6_undo_53 : decode cX6_undo 53 = .ok (.iload_n 1, 1) := by decide +kernel
theorem dX6_undo_54 : decode cX6_undo 54 = .ok (.iload_n 2, 1) := by decide +kernel
theorem dX6_undo_55 : decode cX6_undo 55 = .ok (.iastore, 1) := by decide +kernel
theorem dX6_undo_56 : decode cX6_undo 56 = .ok (.return_, 1) := by decide +kernel
set_option maxRecDepth 20000 in
theorem ggX6_acts_X6_frees : GoodIn wsX6_acts wsX6_frees := goodIn_r _ [22, 2, 23, 4, 3, 5, 6, 24, 25, 26, 27, 28, 29, 30, 31, 32, 33, 34, 35, 36, 37, 38, 39, 40, 41, 42, 43, 44, 45, 46, 47, 48, 49, 50, 51, 52] (by decide +kernel) (by decide +kernel)
set_option maxRecDepth 20000 in
theorem gX6_acts_X6_frees : GoodIn wsX6_acts (wsV RX6 112 RX6 yX6_frees wsX6_frees) := goodIn_app (goodIn_of _ (by decide +kernel)) ggX6_acts_X6_frees
theorem dX6_acts_0 : decode cX6_acts 0 = .ok (.aload_n 0, 1) := by decide +kernel
theorem dX6_acts_1 : decode cX6_acts 1 = .ok (.getfield 19, 3) := by decide +kernel
theorem dX6_acts_4 : decode cX6_acts 4 = .ok (.iload_n 1, 1) := by decide +kernel
theorem dX6_acts_5 : decode cX6_acts 5 = .ok (.iaload, 1) := by decide +kernel
theorem dX6_acts_6 : decode cX6_acts 6 = .ok (.istore_n 2, 1) := by decide +kernel
theorem dX6_acts_7 : decode cX6_acts 7 = .ok (.iconst 0, 1) := by decide +kernel
theorem dX6_acts_8 : decode cX6_acts 8 = .ok (.istore_n 3, 1) := by decide +kernel
theorem dX6_acts_9 : decode cX6_acts 9 = .ok (.iload_n 3, 1) := by decide +kernel
theorem dX6_acts_10 : decode cX6_acts 10 = .ok (.bipush 10, 2) := by decide +kernel
theorem dX6_acts_12 : decode cX6_acts 12 = .ok (.if_icmp .ge 90, 3) := by decide +kernel
theorem dX6_acts_15 : decode cX6_acts 15 = .ok (.aload_n 0, 1) := by decide +kernel
theorem dX6_acts_16 : decode cX6_acts 16 = .ok (.getfield 56, 3) := by decide +kernel
theorem dX6_acts_19 : decode cX6_acts 19 = .ok (.iload_n 3, 1) := by decide +kernel
theorem dX6_acts_20 : decode cX6_acts 20 = .ok (.iaload, 1) := by decide +kernel
theorem dX6_acts_21 : decode cX6_acts 21 = .ok (.iload_n 1, 1) := by decide +kernel
theorem dX6_acts_22 : decode cX6_acts 22 = .ok (.iconst 1, 1) := by decide +kernel
theorem dX6_acts_23 : decode cX6_acts 23 = .ok (.iadd, 1) := by decide +kernel
theorem dX6_acts_24 : decode cX6_acts 24 = .ok (.if_icmp .eq 6, 3) := by decide +kernel
theorem dX6_acts_27 : decode cX6_acts 27 = .ok (.goto 69, 3) := by decide +kernel
theorem dX6_acts_30 : decode cX6_acts 30 = .ok (.aload_n 0, 1) := by decide +kernel
theorem dX6_acts_31 : decode cX6_acts 31 = .ok (.getfield 68, 3) := by decide +kernel
theorem dX6_acts_34 : decode cX6_acts 34 = .ok (.aload_n 0, 1) := by decide +kernel
theorem dX6_acts_35 : decode cX6_acts 35 = .ok (.getfield 109, 3) := by decide +kernel
theorem dX6_acts_38 : decode cX6_acts 38 = .ok (.iload_n 1, 1) := by decide +kernel
theorem dX6_acts_39 : decode cX6_acts 39 = .ok (.iastore, 1) := by decide +kernel
theorem dX6_acts_40 : decode cX6_acts 40 = .ok (.aload_n 0, 1) := by decide +kernel
theorem dX6_acts_41 : decode cX6_acts 41 = .ok (.getfield 71, 3) := by decide +kernel
theorem dX6_acts_44 : decode cX6_acts 44 = .ok (.aload_n 0, 1) := by decide +kernel
theorem dX6_acts_45 : decode cX6_acts 45 = .ok (.getfield 109, 3) := by decide +kernel
theorem dX6_acts_48 : decode cX6_acts 48 = .ok (.iload_n 3, 1) := by decide +kernel
theorem dX6_acts_49 : decode cX6_acts 49 = .ok (.iastore, 1) := by decide +kernel
theorem dX6_acts_50 : decode cX6_acts 50 = .ok (.aload_n 0, 1) := by decide +kernel
theorem dX6_acts_51 : decode cX6_acts 51 = .ok (.getfield 74, 3) := by decide +kernel
theorem dX6_acts_54 : decode cX6_acts 54 = .ok (.aload_n 0, 1) := by decide +kernel
theorem dX6_acts_55 : decode cX6_acts 55 = .ok (.getfield 109, 3) := by decide +kernel
theorem dX6_acts_58 : decode cX6_acts 58 = .ok (.aload_n 0, 1) := by decide +kernel
theorem dX6_acts_59 : decode cX6_acts 59 = .ok (.getfield 59, 3) := by decide +kernel
theorem dX6_acts_62 : decode cX6_acts 62 = .ok (.iload_n 3, 1) := by decide +kernel
theorem dX6_acts_63 : decode cX6_acts 63 = .ok (.iaload, 1) := by decide +kernel
theorem dX6_acts_64 : decode cX6_acts 64 = .ok (.iastore, 1) := by decide +kernel
theorem dX6_acts_65 : decode cX6_acts 65 = .ok (.aload_n 0, 1) := by decide +kernel
theorem dX6_acts_66 : decode cX6_acts 66 = .ok (.dup, 1) := by decide +kernel
theorem dX6_acts_67 : decode cX6_acts 67 = .ok (.getfield 109, 3) := by decide +kernel
theorem dX6_acts_70 : decode cX6_acts 70 = .ok (.iconst 1, 1) := by decide +kernel
theorem dX6_acts_71 : decode cX6_acts 71 = .ok (.iadd, 1) := by decide +kernel
theorem dX6_acts_72 : decode cX6_acts 72 = .ok (.putfield 109, 3) := by decide +kernel
theorem dX6_acts_75 : decode cX6_acts 75 = .ok (.aload_n 0, 1) := by decide +kernel
theorem dX6_acts_76 : decode cX6_acts 76 = .ok (.getfield 59, 3) := by decide +kernel
theorem dX6_acts_79 : decode cX6_acts 79 = .ok (.iload_n 3, 1) := by decide +kernel
theorem dX6_acts_80 : decode cX6_acts 80 = .ok (.iconst 3, 1) := by decide +kernel
theorem dX6_acts_81 : decode cX6_acts 81 = .ok (.aload_n 0, 1) := by decide +kernel
theorem dX6_acts_82 : decode cX6_acts 82 = .ok (.getfield 59, 3) := by decide +kernel
theorem dX6_acts_85 : decode cX6_acts 85 = .ok (.iload_n 3, 1) := by decide +kernel
theorem dX6_acts_86 : decode cX6_acts 86 = .ok (.iaload, 1) := by decide +kernel
theorem dX6_acts_87 : decode cX6_acts 87 = .ok (.imul, 1) := by decide +kernel
theorem dX6_acts_88 : decode cX6_acts 88 = .ok (.iload_n 1, 1) := by decide +kernel
theorem dX6_acts_89 : decode cX6_acts 89 = .ok (.iadd, 1) := by decide +kernel
theorem dX6_acts_90 : decode cX6_acts 90 = .ok (.bipush 10, 2) := by decide +kernel
theorem dX6_acts_92 : decode cX6_acts 92 = .ok (.iload_n 2, 1) := by decide +kernel
theorem dX6_acts_93 : decode cX6_acts 93 = .ok (.imul, 1) := by decide +kernel
theorem dX6_acts_94 : decode cX6_acts 94 = .ok (.iadd, 1) := by decide +kernel
theorem dX6_acts_95 : decode cX6_acts 95 = .ok (.iastore, 1) := by decide +kernel
theorem dX6_acts_96 : decode cX6_acts 96 = .ok (.iinc 3 1, 3) := by decide +kernel
theorem dX6_acts_99 : decode cX6_acts 99 = .ok (.goto (-90), 3) := by decide +kernel
theorem dX6_acts_102 : decode cX6_acts 102 = .ok (.aload_n 0, 1) := by decide +kernel
theorem dX6_acts_103 : decode cX6_acts 103 = .ok (.getfield 116, 3) := by decide +kernel
theorem dX6_acts_106 : decode cX6_acts 106 = .ok (.sipush 300, 3) := by decide +kernel
theorem dX6_acts_109 : decode cX6_acts 109 = .ok (.if_icmp .ge 28, 3) := by decide +kernel
theorem dX6_acts_112 : decode cX6_acts 112 = .ok (.aload_n 0, 1) := by decide +kernel
theorem dX6_acts_113 : decode cX6_acts 113 = .ok (.getfield 77, 3) := by decide +kernel
theorem dX6_acts_116 : decode cX6_acts 116 = .ok (.aload_n 0, 1) := by decide +kernel
theorem dX6_acts_117 : decode cX6_acts 117 = .ok (.getfield 116, 3) := by decide +kernel
theorem dX6_acts_120 : decode cX6_acts 120 = .ok (.bipush 100, 2) := by decide +kernel
theorem dX6_acts_122 : decode cX6_acts 122 = .ok (.iload_n 1, 1) := by decide +kernel
theorem dX6_acts_123 : decode cX6_acts 123 = .ok (.imul, 1) := by decide +kernel
theorem dX6_acts_124 : decode cX6_acts 124 = .ok (.iload_n 2, 1) := by decide +kernel
theorem dX6_acts_125 : decode cX6_acts 125 = .ok (.iadd, 1) := by decide +kernel
theorem dX6_acts_126 : decode cX6_acts 126 = .ok (.iastore, 1) := by decide +kernel
theorem dX6_acts_127 : decode cX6_acts 127 = .ok (.aload_n 0, 1) := by decide +kernel
theorem dX6_acts_128 : decode cX6_acts 128 = .ok (.dup, 1) := by decide +kernel
theorem dX6_acts_129 : decode cX6_acts 129 = .ok (.getfield 116, 3) := by decide +kernel
theorem dX6_acts_132 : decode cX6_acts 132 = .ok (.iconst 1, 1) := by decide +kernel
theorem dX6_acts_133 : decode cX6_acts 133 = .ok (.iadd, 1) := by decide +kernel
theorem dX6_acts_134 : decode cX6_acts 134 = .ok (.putfield 116, 3) := by decide +kernel
theorem dX6_acts_137 : decode cX6_acts 137 = .ok (.iconst 0, 1) := by decide +kernel
theorem dX6_acts_138 : decode cX6_acts 138 = .ok (.istore_n 3, 1) := by decide +kernel
theorem dX6_acts_139 : decode cX6_acts 139 = .ok (.iload_n 3, 1) := by decide +kernel
theorem dX6_acts_140 : decode cX6_acts 140 = .ok (.aload_n 0, 1) := by decide +kernel
theorem dX6_acts_141 : decode cX6_acts 141 = .ok (.getfield 50, 3) := by decide +kernel
theorem dX6_acts_144 : decode cX6_acts 144 = .ok (.bipush 10, 2) := by decide +kernel
theorem dX6_acts_146 : decode cX6_acts 146 = .ok (.iload_n 1, 1) := by decide +kernel
theorem dX6_acts_147 : decode cX6_acts 147 = .ok (.imul, 1) := by decide +kernel
theorem dX6_acts_148 : decode cX6_acts 148 = .ok (.iload_n 2, 1) := by decide +kernel
theorem dX6_acts_149 : decode cX6_acts 149 = .ok (.iadd, 1) := by decide +kernel
theorem dX6_acts_150 : decode cX6_acts 150 = .ok (.iaload, 1) := by decide +kernel
theorem dX6_acts_151 : decode cX6_acts 151 = .ok (.if_icmp .ge 73, 3) := by decide +kernel
theorem dX6_acts_154 : decode cX6_acts 154 = .ok (.bipush 12, 2) := by decide +kernel
theorem dX6_acts_156 : decode cX6_acts 156 = .ok (.iload_n 1, 1) := by decide +kernel
theorem dX6_acts_157 : decode cX6_acts 157 = .ok (.imul, 1) := by decide +kernel
theorem dX6_acts_158 : decode cX6_acts 158 = .ok (.aload_n 0, 1) := by decide +kernel
theorem dX6_acts_159 : decode cX6_acts 159 = .ok (.getfield 53, 3) := by decide +kernel
theorem dX6_acts_162 : decode cX6_acts 162 = .ok (.iconst 2, 1) := by decide +kernel
theorem dX6_acts_163 : decode cX6_acts 163 = .ok (.bipush 10, 2) := by decide +kernel
theorem dX6_acts_165 : decode cX6_acts 165 = .ok (.iload_n 1, 1) := by decide +kernel
theorem dX6_acts_166 : decode cX6_acts 166 = .ok (.imul, 1) := by decide +kernel
theorem dX6_acts_167 : decode cX6_acts 167 = .ok (.iload_n 2, 1) := by decide +kernel
theorem dX6_acts_168 : decode cX6_acts 168 = .ok (.iadd, 1) := by decide +kernel
theorem dX6_acts_169 : decode cX6_acts 169 = .ok (.imul, 1) := by decide +kernel
theorem dX6_acts_170 : decode cX6_acts 170 = .ok (.iload_n 3, 1) := by decide +kernel
theorem dX6_acts_171 : decode cX6_acts 171 = .ok (.iadd, 1) := by decide +kernel
theorem dX6_acts_172 : decode cX6_acts 172 = .ok (.iaload, 1) := by decide +kernel
theorem dX6_acts_173 : decode cX6_acts 173 = .ok (.iadd, 1) := by decide +kernel
theorem dX6_acts_174 : decode cX6_acts 174 = .ok (.istore 4, 2) := by decide +kernel
theorem dX6_acts_176 : decode cX6_acts 176 = .ok (.aload_n 0, 1) := by decide +kernel
theorem dX6_acts_177 : decode cX6_acts 177 = .ok (.getfield 99, 3) := by decide +kernel
theorem dX6_acts_180 : decode cX6_acts 180 = .ok (.ifCond .le 27, 3) := by decide +kernel
theorem dX6_acts_183 : decode cX6_acts 183 = .ok (.aload_n 0, 1) := by decide +kernel
theorem dX6_acts_184 : decode cX6_acts 184 = .ok (.dup, 1) := by decide +kernel
theorem dX6_acts_185 : decode cX6_acts 185 = .ok (.getfield 99, 3) := by decide +kernel
theorem dX6_acts_188 : decode cX6_acts 188 = .ok (.iconst 1, 1) := by decide +kernel
theorem dX6_acts_189 : decode cX6_acts 189 = .ok (.isub, 1) := by decide +kernel
theorem dX6_acts_190 : decode cX6_acts 190 = .ok (.putfield 99, 3) := by decide +kernel
theorem dX6_acts_193 : decode cX6_acts 193 = .ok (.aload_n 0, 1) := by decide +kernel
theorem dX6_acts_194 : decode cX6_acts 194 = .ok (.getfield 65, 3) := by decide +kernel
theorem dX6_acts_197 : decode cX6_acts 197 = .ok (.iload 4, 2) := by decide +kernel
theorem dX6_acts_199 : decode cX6_acts 199 = .ok (.dup2, 1) := by decide +kernel
theorem dX6_acts_200 : decode cX6_acts 200 = .ok (.iaload, 1) := by decide +kernel
theorem dX6_acts_201 : decode cX6_acts 201 = .ok (.iconst 1, 1) := by decide +kernel
theorem dX6_acts_202 : decode cX6_acts 202 = .ok (.iadd, 1) := by decide +kernel
theorem dX6_acts_203 : decode cX6_acts 203 = .ok (.iastore, 1) := by decide +kernel
theorem dX6_acts_204 : decode cX6_acts 204 = .ok (.goto 14, 3) := by decide +kernel
theorem dX6_acts_207 : decode cX6_acts 207 = .ok (.aload_n 0, 1) := by decide +kernel
theorem dX6_acts_208 : decode cX6_acts 208 = .ok (.getfield 62, 3) := by decide +kernel
theorem dX6_acts_211 : decode cX6_acts 211 = .ok (.iload 4, 2) := by decide +kernel
theorem dX6_acts_213 : decode cX6_acts 213 = .ok (.dup2, 1) := by decide +kernel
theorem dX6_acts_214 : decode cX6_acts 214 = .ok (.iaload, 1) := by decide +kernel
theorem dX6_acts_215 : decode cX6_acts 215 = .ok (.iconst 1, 1) := by decide +kernel
theorem dX6_acts_216 : decode cX6_acts 216 = .ok (.iadd, 1) := by decide +kernel
theorem dX6_acts_217 : decode cX6_acts 217 = .ok (.iastore, 1) := by decide +kernel
theorem dX6_acts_218 : decode cX6_acts 218 = .ok (.iinc 3 1, 3) := by decide +kernel
theorem dX6_acts_221 : decode cX6_acts 221 = .ok (.goto (-82), 3) := by decide +kernel
theorem dX6_acts_224 : decode cX6_acts 224 = .ok (.aload_n 0, 1) := by decide +kernel
theorem dX6_acts_225 : decode cX6_acts 225 = .ok (.getfield 19, 3) := by decide +kernel
theorem dX6_acts_228 : decode cX6_acts 228 = .ok (.iload_n 1, 1) := by decide +kernel
theorem dX6_acts_229 : decode cX6_acts 229 = .ok (.dup2, 1) := by decide +kernel
theorem dX6_acts_230 : decode cX6_acts 230 = .ok (.iaload, 1) := by decide +kernel
theorem dX6_acts_231 : decode cX6_acts 231 = .ok (.iconst 1, 1) := by decide +kernel
theorem dX6_acts_232 : decode cX6_acts 232 = .ok (.iadd, 1) := by decide +kernel
theorem dX6_acts_233 : decode cX6_acts 233 = .ok (.iastore, 1) := by decide +kernel
theorem dX6_acts_234 : decode cX6_acts 234 = .ok (.aload_n 0, 1) := by decide +kernel
theorem dX6_acts_235 : decode cX6_acts 235 = .ok (.getfield 22, 3) := by decide +kernel
theorem dX6_acts_238 : decode cX6_acts 238 = .ok (.iload_n 1, 1) := by decide +kernel
theorem dX6_acts_239 : decode cX6_acts 239 = .ok (.iconst 0, 1) := by decide +kernel
theorem dX6_acts_240 : decode cX6_acts 240 = .ok (.iastore, 1) := by decide +kernel
theorem dX6_acts_241 : decode cX6_acts 241 = .ok (.aload_n 0, 1) := by decide +kernel
theorem dX6_acts_242 : decode cX6_acts 242 = .ok (.getfield 19, 3) := by decide +kernel
theorem dX6_acts_245 : decode cX6_acts 245 = .ok (.iload_n 1, 1) := by decide +kernel
theorem dX6_acts_246 : decode cX6_acts 246 = .ok (.iaload, 1) := by decide +kernel
theorem dX6_acts_247 : decode cX6_acts 247 = .ok (.aload_n 0, 1) := by decide +kernel
theorem dX6_acts_248 : decode cX6_acts 248 = .ok (.getfield 7, 3) := by decide +kernel
theorem dX6_acts_251 : decode cX6_acts 251 = .ok (.iload_n 1, 1) := by decide +kernel
theorem dX6_acts_252 : decode cX6_acts 252 = .ok (.iaload, 1) := by decide +kernel
theorem dX6_acts_253 : decode cX6_acts 253 = .ok (.if_icmp .ne 15, 3) := by decide +kernel
theorem dX6_acts_256 : decode cX6_acts 256 = .ok (.aload_n 0, 1) := by decide +kernel
theorem dX6_acts_257 : decode cX6_acts 257 = .ok (.iload_n 1, 1) := by decide +kernel
theorem dX6_acts_258 : decode cX6_acts 258 = .ok (.invokevirtual 112, 3) := by decide +kernel
theorem dX6_acts_261 : decode cX6_acts 261 = .ok (.aload_n 0, 1) := by decide +kernel
theorem dX6_acts_262 : decode cX6_acts 262 = .ok (.getfield 16, 3) := by decide +kernel
theorem dX6_acts_265 : decode cX6_acts 265 = .ok (.iload_n 1, 1) := by decide +kernel
theorem dX6_acts_266 : decode cX6_acts 266 = .ok (.iconst 1, 1) := by decide +kernel
theorem dX6_acts_267 : decode cX6_acts 267 = .ok (.iastore, 1) := by decide +kernel
theorem dX6_acts_268 : decode cX6_acts 268 = .ok (.return_, 1) := by decide +kernel
set_option maxRecDepth 20000 in
theorem ggX6_does_X6_isWork : GoodIn wsX6_does wsX6_isWork := goodIn_r _ [13, 14, 15, 16, 12, 17, 60, 61, 62, 63, 64, 65, 66, 67, 68, 69, 70, 71, 72, 73, 74, 75, 76, 77, 78, 79, 80, 81, 82, 83, 84, 85, 86, 87, 88] (by decide +kernel) (by decide +kernel)
set_option maxRecDepth 20000 in
theorem gX6_does_X6_isWork : GoodIn wsX6_does (wsV RX6 91 RX6 yX6_isWork wsX6_isWork) := goodIn_app (goodIn_of _ (by decide +kernel)) ggX6_does_X6_isWork
set_option maxRecDepth 20000 in
theorem ggX6_does_X6_takes : GoodIn wsX6_does wsX6_takes := goodIn_r _ [21, 22, 23, 4, 24, 25, 26, 27, 28, 12, 29, 14, 60, 61, 62, 63, 64, 65, 66, 67, 68, 69, 70, 71, 72, 73, 74, 75, 76, 77, 78, 79, 80, 81, 82, 83, 84, 85, 86, 87, 88] (by decide +kernel) (by decide +kernel)
set_option maxRecDepth 20000 in
theorem gX6_does_X6_takes : GoodIn wsX6_does (wsV RX6 119 RX6 yX6_takes wsX6_takes) := goodIn_app (goodIn_of _ (by decide +kernel)) ggX6_does_X6_takes
set_option maxRecDepth 20000 in
theorem ggX6_does_X6_hears : GoodIn wsX6_does wsX6_hears := goodIn_r _ [33, 34, 4, 35, 36, 60, 61, 62, 63, 64, 65, 66, 67, 68, 69, 70, 71, 72, 73, 74, 75, 76, 77, 78, 79, 80, 81, 82, 83, 84, 85, 86, 87, 88] (by decide +kernel) (by decide +kernel)
set_option maxRecDepth 20000 in
theorem gX6_does_X6_hears : GoodIn wsX6_does (wsV RX6 122 RX6 yX6_hears wsX6_hears) := goodIn_app (goodIn_of _ (by decide +kernel)) ggX6_does_X6_hears
end
section
set_option maxRecDepth 20000 in
theorem ggX6_does_X6_undo : GoodIn wsX6_does wsX6_undo := goodIn_r _ [40, 41, 42, 43, 44, 45, 1, 46, 47, 48, 12, 49, 22, 23, 60, 61, 62, 63, 64, 65, 66, 67, 68, 69, 70, 71, 72, 73, 74, 75, 76, 77, 78, 79, 80, 81, 82, 83, 84, 85, 86, 87, 88] (by decide +kernel) (by decide +kernel)
set_option maxRecDepth 20000 in
theorem gX6_does_X6_undo : GoodIn wsX6_does (wsV RX6 125 RX6 yX6_undo wsX6_undo) := goodIn_app (goodIn_of _ (by decide +kernel)) ggX6_does_X6_undo
set_option maxRecDepth 20000 in
theorem ggX6_does_X6_acts : GoodIn wsX6_does wsX6_acts := goodIn_r _ [53, 3, 22, 42, 41, 44, 45, 43, 54, 55, 56, 57, 58, 35, 34, 4, 59, 1, 46, 47, 48, 12, 49, 23, 60, 61, 62, 63, 64, 65, 66, 67, 68, 69, 70, 71, 72, 73, 74, 75, 76, 77, 78, 79, 80, 81, 82, 83, 84, 85, 86, 87, 88] (by decide +kernel) (by decide +kernel)
set_option maxRecDepth 20000 in
theorem gX6_does_X6_acts : GoodIn wsX6_does (wsV RX6 129 RX6 yX6_acts wsX6_acts) := goodIn_app (goodIn_of _ (by decide +kernel)) ggX6_does_X6_acts
theorem dX6_does_0 : decode cX6_does 0 = .ok (.aload_n 0, 1) := by decide +kernel
theorem dX6_does_1 : decode cX6_does 1 = .ok (.iload_n 1, 1) := by decide +kernel
theorem dX6_does_2 : decode cX6_does 2 = .ok (.invokevirtual 91, 3) := by decide +kernel
theorem dX6_does_5 : decode cX6_does 5 = .ok (.ifCond .eq 12, 3) := by decide +kernel
theorem dX6_does_8 : decode cX6_does 8 = .ok (.aload_n 0, 1) := by decide +kernel
theorem dX6_does_9 : decode cX6_does 9 = .ok (.getfield 16, 3) := by decide +kernel
theorem dX6_does_12 : decode cX6_does 12 = .ok (.iload_n 1, 1) := by decide +kernel
theorem dX6_does_13 : decode cX6_does 13 = .ok (.iaload, 1) := by decide +kernel
theorem dX6_does_14 : decode cX6_does 14 = .ok (.ifCond .eq 5, 3) := by decide +kernel
theorem dX6_does_17 : decode cX6_does 17 = .ok (.iconst 0, 1) := by decide +kernel
theorem dX6_does_18 : decode cX6_does 18 = .ok (.ireturn, 1) := by decide +kernel
theorem dX6_does_19 : decode cX6_does 19 = .ok (.aload_n 0, 1) := by decide +kernel
theorem dX6_does_20 : decode cX6_does 20 = .ok (.getfield 28, 3) := by decide +kernel
theorem dX6_does_23 : decode cX6_does 23 = .ok (.iload_n 1, 1) := by decide +kernel
theorem dX6_does_24 : decode cX6_does 24 = .ok (.iconst 1, 1) := by decide +kernel
theorem dX6_does_25 : decode cX6_does 25 = .ok (.bastore, 1) := by decide +kernel
theorem dX6_does_26 : decode cX6_does 26 = .ok (.bipush 10, 2) := by decide +kernel
theorem dX6_does_28 : decode cX6_does 28 = .ok (.iload_n 1, 1) := by decide +kernel
theorem dX6_does_29 : decode cX6_does 29 = .ok (.imul, 1) := by decide +kernel
theorem dX6_does_30 : decode cX6_does 30 = .ok (.aload_n 0, 1) := by decide +kernel
theorem dX6_does_31 : decode cX6_does 31 = .ok (.getfield 19, 3) := by decide +kernel
theorem dX6_does_34 : decode cX6_does 34 = .ok (.iload_n 1, 1) := by decide +kernel
theorem dX6_does_35 : decode cX6_does 35 = .ok (.iaload, 1) := by decide +kernel
theorem dX6_does_36 : decode cX6_does 36 = .ok (.iadd, 1) := by decide +kernel
theorem dX6_does_37 : decode cX6_does 37 = .ok (.istore_n 2, 1) := by decide +kernel
theorem dX6_does_38 : decode cX6_does 38 = .ok (.aload_n 0, 1) := by decide +kernel
theorem dX6_does_39 : decode cX6_does 39 = .ok (.getfield 22, 3) := by decide +kernel
theorem dX6_does_42 : decode cX6_does 42 = .ok (.iload_n 1, 1) := by decide +kernel
theorem dX6_does_43 : decode cX6_does 43 = .ok (.iaload, 1) := by decide +kernel
theorem dX6_does_44 : decode cX6_does 44 = .ok (.aload_n 0, 1) := by decide +kernel
theorem dX6_does_45 : decode cX6_does 45 = .ok (.getfield 44, 3) := by decide +kernel
theorem dX6_does_48 : decode cX6_does 48 = .ok (.iload_n 2, 1) := by decide +kernel
theorem dX6_does_49 : decode cX6_does 49 = .ok (.iaload, 1) := by decide +kernel
theorem dX6_does_50 : decode cX6_does 50 = .ok (.if_icmp .ge 52, 3) := by decide +kernel
theorem dX6_does_53 : decode cX6_does 53 = .ok (.aload_n 0, 1) := by decide +kernel
theorem dX6_does_54 : decode cX6_does 54 = .ok (.getfield 47, 3) := by decide +kernel
theorem dX6_does_57 : decode cX6_does 57 = .ok (.iconst 4, 1) := by decide +kernel
theorem dX6_does_58 : decode cX6_does 58 = .ok (.iload_n 2, 1) := by decide +kernel
theorem dX6_does_59 : decode cX6_does 59 = .ok (.imul, 1) := by decide +kernel
theorem dX6_does_60 : decode cX6_does 60 = .ok (.aload_n 0, 1) := by decide +kernel
theorem dX6_does_61 : decode cX6_does 61 = .ok (.getfield 22, 3) := by decide +kernel
theorem dX6_does_64 : decode cX6_does 64 = .ok (.iload_n 1, 1) := by decide +kernel
theorem dX6_does_65 : decode cX6_does 65 = .ok (.iaload, 1) := by decide +kernel
theorem dX6_does_66 : decode cX6_does 66 = .ok (.iadd, 1) := by decide +kernel
theorem dX6_does_67 : decode cX6_does 67 = .ok (.iaload, 1) := by decide +kernel
theorem dX6_does_68 : decode cX6_does 68 = .ok (.istore_n 3, 1) := by decide +kernel
theorem dX6_does_69 : decode cX6_does 69 = .ok (.aload_n 0, 1) := by decide +kernel
theorem dX6_does_70 : decode cX6_does 70 = .ok (.getfield 25, 3) := by decide +kernel
theorem dX6_does_73 : decode cX6_does 73 = .ok (.iload_n 1, 1) := by decide +kernel
theorem dX6_does_74 : decode cX6_does 74 = .ok (.iload_n 3, 1) := by decide +kernel
theorem dX6_does_75 : decode cX6_does 75 = .ok (.bipush 100, 2) := by decide +kernel
theorem dX6_does_77 : decode cX6_does 77 = .ok (.if_icmp .ge 12, 3) := by decide +kernel
theorem dX6_does_80 : decode cX6_does 80 = .ok (.aload_n 0, 1) := by decide +kernel
theorem dX6_does_81 : decode cX6_does 81 = .ok (.iload_n 1, 1) := by decide +kernel
theorem dX6_does_82 : decode cX6_does 82 = .ok (.iload_n 3, 1) := by decide +kernel
theorem dX6_does_83 : decode cX6_does 83 = .ok (.invokevirtual 119, 3) := by decide +kernel
theorem dX6_does_86 : decode cX6_does 86 = .ok (.goto 12, 3) := by decide +kernel
theorem dX6_does_89 : decode cX6_does 89 = .ok (.aload_n 0, 1) := by decide +kernel
theorem dX6_does_90 : decode cX6_does 90 = .ok (.iload_n 1, 1) := by decide +kernel
theorem dX6_does_91 : decode cX6_does 91 = .ok (.iload_n 3, 1) := by decide +kernel
theorem dX6_does_92 : decode cX6_does 92 = .ok (.bipush 100, 2) := by decide +kernel
theorem dX6_does_94 : decode cX6_does 94 = .ok (.isub, 1) := by decide +kernel
theorem dX6_does_95 : decode cX6_does 95 = .ok (.invokevirtual 122, 3) := by decide +kernel
theorem dX6_does_98 : decode cX6_does 98 = .ok (.iastore, 1) := by decide +kernel
theorem dX6_does_99 : decode cX6_does 99 = .ok (.goto 47, 3) := by decide +kernel
theorem dX6_does_102 : decode cX6_does 102 = .ok (.aload_n 0, 1) := by decide +kernel
theorem dX6_does_103 : decode cX6_does 103 = .ok (.getfield 13, 3) := by decide +kernel
theorem dX6_does_106 : decode cX6_does 106 = .ok (.iload_n 1, 1) := by decide +kernel
theorem dX6_does_107 : decode cX6_does 107 = .ok (.iaload, 1) := by decide +kernel
theorem dX6_does_108 : decode cX6_does 108 = .ok (.aload_n 0, 1) := by decide +kernel
theorem dX6_does_109 : decode cX6_does 109 = .ok (.getfield 19, 3) := by decide +kernel
theorem dX6_does_112 : decode cX6_does 112 = .ok (.iload_n 1, 1) := by decide +kernel
theorem dX6_does_113 : decode cX6_does 113 = .ok (.iaload, 1) := by decide +kernel
theorem dX6_does_114 : decode cX6_does 114 = .ok (.if_icmp .ne 20, 3) := by decide +kernel
theorem dX6_does_117 : decode cX6_does 117 = .ok (.aload_n 0, 1) := by decide +kernel
theorem dX6_does_118 : decode cX6_does 118 = .ok (.iload_n 1, 1) := by decide +kernel
theorem dX6_does_119 : decode cX6_does 119 = .ok (.iconst 2, 1) := by decide +kernel
theorem dX6_does_120 : decode cX6_does 120 = .ok (.invokevirtual 125, 3) := by decide +kernel
theorem dX6_does_123 : decode cX6_does 123 = .ok (.aload_n 0, 1) := by decide +kernel
theorem dX6_does_124 : decode cX6_does 124 = .ok (.getfield 25, 3) := by decide +kernel
theorem dX6_does_127 : decode cX6_does 127 = .ok (.iload_n 1, 1) := by decide +kernel
theorem dX6_does_128 : decode cX6_does 128 = .ok (.bipush 6, 2) := by decide +kernel
theorem dX6_does_130 : decode cX6_does 130 = .ok (.iastore, 1) := by decide +kernel
theorem dX6_does_131 : decode cX6_does 131 = .ok (.goto 15, 3) := by decide +kernel
theorem dX6_does_134 : decode cX6_does 134 = .ok (.aload_n 0, 1) := by decide +kernel
theorem dX6_does_135 : decode cX6_does 135 = .ok (.iload_n 1, 1) := by decide +kernel
theorem dX6_does_136 : decode cX6_does 136 = .ok (.invokevirtual 129, 3) := by decide +kernel
theorem dX6_does_139 : decode cX6_does 139 = .ok (.aload_n 0, 1) := by decide +kernel
theorem dX6_does_140 : decode cX6_does 140 = .ok (.getfield 25, 3) := by decide +kernel
theorem dX6_does_143 : decode cX6_does 143 = .ok (.iload_n 1, 1) := by decide +kernel
theorem dX6_does_144 : decode cX6_does 144 = .ok (.iconst 2, 1) := by decide +kernel
theorem dX6_does_145 : decode cX6_does 145 = .ok (.iastore, 1) := by decide +kernel
theorem dX6_does_146 : decode cX6_does 146 = .ok (.aload_n 0, 1) := by decide +kernel
theorem dX6_does_147 : decode cX6_does 147 = .ok (.getfield 25, 3) := by decide +kernel
theorem dX6_does_150 : decode cX6_does 150 = .ok (.iload_n 1, 1) := by decide +kernel
theorem dX6_does_151 : decode cX6_does 151 = .ok (.iaload, 1) := by decide +kernel
theorem dX6_does_152 : decode cX6_does 152 = .ok (.ireturn, 1) := by decide +kernel
set_option maxRecDepth 20000 in
theorem ggX6_turn_X6_does : GoodIn wsX6_turn wsX6_does := goodIn_r _ [6, 7, 8, 9, 10, 11, 12, 13, 14, 15, 16, 17, 5, 18, 19, 20, 21, 22, 23, 24, 25, 26, 27, 28, 29, 30, 31, 32, 33, 34, 35, 36, 37, 38, 39, 40, 41, 42, 43, 44, 45, 46, 47, 48, 49, 50, 51, 52, 53, 54, 55, 56, 57, 58, 59, 60, 61, 62, 63, 64, 65, 66, 67, 68, 69, 70, 71, 72, 73, 74, 75, 76, 77, 78, 79, 80, 81, 82, 83, 84, 85, 86, 87, 88, 89, 90, 91, 92, 93] (by decide +kernel) (by decide +kernel)
set_option maxRecDepth 20000 in
theorem gX6_turn_X6_does : GoodIn wsX6_turn (wsV RX6 132 RX6 yX6_does wsX6_does) := goodIn_app (goodIn_of _ (by decide +kernel)) ggX6_turn_X6_does
theorem dX6_turn_0 : decode cX6_turn 0 = .ok (.aload_n 0, 1) := by decide +kernel
theorem dX6_turn_1 : decode cX6_turn 1 = .ok (.iconst 0, 1) := by decide +kernel
theorem dX6_turn_2 : decode cX6_turn 2 = .ok (.putfield 80, 3) := by decide +kernel
theorem dX6_turn_5 : decode cX6_turn 5 = .ok (.aload_n 0, 1) := by decide +kernel
theorem dX6_turn_6 : decode cX6_turn 6 = .ok (.iload_n 1, 1) := by decide +kernel
theorem dX6_turn_7 : decode cX6_turn 7 = .ok (.invokevirtual 132, 3) := by decide +kernel
theorem dX6_turn_10 : decode cX6_turn 10 = .ok (.ireturn, 1) := by decide +kernel
set_option maxRecDepth 20000 in
theorem ggX6_run_X6_does : GoodIn wsX6_run wsX6_does := goodIn_r _ [7, 8, 9, 10, 11, 12, 13, 14, 15, 16, 17, 18, 6, 19, 2, 20, 21, 22, 23, 24, 25, 26, 27, 28, 29, 30, 31, 32, 33, 34, 35, 36, 37, 38, 39, 40, 41, 42, 43, 44, 45, 46, 47, 48, 49, 50, 51, 52, 53, 54, 55, 56, 57, 58, 59, 60, 61, 62, 63, 64, 65, 66, 67, 68, 69, 70, 71, 72, 73, 74, 75, 76, 77, 78, 79, 80, 81, 82, 83, 84, 85, 86, 87, 88, 89, 90, 91, 92, 93] (by decide +kernel) (by decide +kernel)
set_option maxRecDepth 20000 in
theorem gX6_run_X6_does : GoodIn wsX6_run (wsV RX6 132 RX6 yX6_does wsX6_does) := goodIn_app (goodIn_of _ (by decide +kernel)) ggX6_run_X6_does
theorem dX6_run_0 : decode cX6_run 0 = .ok (.aload_n 0, 1) := by decide +kernel
theorem dX6_run_1 : decode cX6_run 1 = .ok (.iconst 0, 1) := by decide +kernel
theorem dX6_run_2 : decode cX6_run 2 = .ok (.putfield 80, 3) := by decide +kernel
theorem dX6_run_5 : decode cX6_run 5 = .ok (.iconst 0, 1) := by decide +kernel
theorem dX6_run_6 : decode cX6_run 6 = .ok (.istore_n 1, 1) := by decide +kernel
theorem dX6_run_7 : decode cX6_run 7 = .ok (.iconst 1, 1) := by decide +kernel
theorem dX6_run_8 : decode cX6_run 8 = .ok (.istore_n 2, 1) := by decide +kernel
theorem dX6_run_9 : decode cX6_run 9 = .ok (.iload_n 2, 1) := by decide +kernel
theorem dX6_run_10 : decode cX6_run 10 = .ok (.ifCond .eq 72, 3) := by decide +kernel
theorem dX6_run_13 : decode cX6_run 13 = .ok (.iconst 0, 1) := by decide +kernel
theorem dX6_run_14 : decode cX6_run 14 = .ok (.istore_n 2, 1) := by decide +kernel
theorem dX6_run_15 : decode cX6_run 15 = .ok (.iconst 0, 1) := by decide +kernel
theorem dX6_run_16 : decode cX6_run 16 = .ok (.istore_n 3, 1) := by decide +kernel
theorem dX6_run_17 : decode cX6_run 17 = .ok (.iload_n 3, 1) := by decide +kernel
theorem dX6_run_18 : decode cX6_run 18 = .ok (.aload_n 0, 1) := by decide +kernel
theorem dX6_run_19 : decode cX6_run 19 = .ok (.getfield 84, 3) := by decide +kernel
theorem dX6_run_22 : decode cX6_run 22 = .ok (.if_icmp .ge 57, 3) := by decide +kernel
theorem dX6_run_25 : decode cX6_run 25 = .ok (.aload_n 0, 1) := by decide +kernel
theorem dX6_run_26 : decode cX6_run 26 = .ok (.iload_n 3, 1) := by decide +kernel
theorem dX6_run_27 : decode cX6_run 27 = .ok (.invokevirtual 132, 3) := by decide +kernel
theorem dX6_run_30 : decode cX6_run 30 = .ok (.istore 4, 2) := by decide +kernel
theorem dX6_run_32 : decode cX6_run 32 = .ok (.iload_n 1, 1) := by decide +kernel
theorem dX6_run_33 : decode cX6_run 33 = .ok (.iload 4, 2) := by decide +kernel
theorem dX6_run_35 : decode cX6_run 35 = .ok (.iconst 2, 1) := by decide +kernel
theorem dX6_run_36 : decode cX6_run 36 = .ok (.if_icmp .ne 7, 3) := by decide +kernel
theorem dX6_run_39 : decode cX6_run 39 = .ok (.iconst 1, 1) := by decide +kernel
theorem dX6_run_40 : decode cX6_run 40 = .ok (.goto 4, 3) := by decide +kernel
theorem dX6_run_43 : decode cX6_run 43 = .ok (.iconst 0, 1) := by decide +kernel
theorem dX6_run_44 : decode cX6_run 44 = .ok (.iadd, 1) := by decide +kernel
theorem dX6_run_45 : decode cX6_run 45 = .ok (.istore_n 1, 1) := by decide +kernel
theorem dX6_run_46 : decode cX6_run 46 = .ok (.iload_n 2, 1) := by decide +kernel
theorem dX6_run_47 : decode cX6_run 47 = .ok (.ifCond .ne 20, 3) := by decide +kernel
theorem dX6_run_50 : decode cX6_run 50 = .ok (.iload 4, 2) := by decide +kernel
theorem dX6_run_52 : decode cX6_run 52 = .ok (.ifCond .eq 19, 3) := by decide +kernel
theorem dX6_run_55 : decode cX6_run 55 = .ok (.iload 4, 2) := by decide +kernel
theorem dX6_run_57 : decode cX6_run 57 = .ok (.iconst 3, 1) := by decide +kernel
theorem dX6_run_58 : decode cX6_run 58 = .ok (.if_icmp .eq 13, 3) := by decide +kernel
theorem dX6_run_61 : decode cX6_run 61 = .ok (.iload 4, 2) := by decide +kernel
theorem dX6_run_63 : decode cX6_run 63 = .ok (.iconst 4, 1) := by decide +kernel
theorem dX6_run_64 : decode cX6_run 64 = .ok (.if_icmp .eq 7, 3) := by decide +kernel
theorem dX6_run_67 : decode cX6_run 67 = .ok (.iconst 1, 1) := by decide +kernel
theorem dX6_run_68 : decode cX6_run 68 = .ok (.goto 4, 3) := by decide +kernel
theorem dX6_run_71 : decode cX6_run 71 = .ok (.iconst 0, 1) := by decide +kernel
theorem dX6_run_72 : decode cX6_run 72 = .ok (.istore_n 2, 1) := by decide +kernel
theorem dX6_run_73 : decode cX6_run 73 = .ok (.iinc 3 1, 3) := by decide +kernel
theorem dX6_run_76 : decode cX6_run 76 = .ok (.goto (-59), 3) := by decide +kernel
theorem dX6_run_79 : decode cX6_run 79 = .ok (.goto (-70), 3) := by decide +kernel
theorem dX6_run_82 : decode cX6_run 82 = .ok (.iload_n 1, 1) := by decide +kernel
theorem dX6_run_83 : decode cX6_run 83 = .ok (.ireturn, 1) := by decide +kernel
theorem dX6_waitsOn_0 : decode cX6_waitsOn 0 = .ok (.aload_n 0, 1) := by decide +kernel
theorem dX6_waitsOn_1 : decode cX6_waitsOn 1 = .ok (.getfield 38, 3) := by decide +kernel
theorem dX6_waitsOn_4 : decode cX6_waitsOn 4 = .ok (.iload_n 1, 1) := by decide +kernel
theorem dX6_waitsOn_5 : decode cX6_waitsOn 5 = .ok (.iaload, 1) := by decide +kernel
theorem dX6_waitsOn_6 : decode cX6_waitsOn 6 = .ok (.ifCond .ne 7, 3) := by decide +kernel
theorem dX6_waitsOn_9 : decode cX6_waitsOn 9 = .ok (.iconst (-1), 1) := by decide +kernel
theorem dX6_waitsOn_10 : decode cX6_waitsOn 10 = .ok (.goto 18, 3) := by decide +kernel
theorem dX6_waitsOn_13 : decode cX6_waitsOn 13 = .ok (.aload_n 0, 1) := by decide +kernel
theorem dX6_waitsOn_14 : decode cX6_waitsOn 14 = .ok (.getfield 56, 3) := by decide +kernel
theorem dX6_waitsOn_17 : decode cX6_waitsOn 17 = .ok (.aload_n 0, 1) := by decide +kernel
theorem dX6_waitsOn_18 : decode cX6_waitsOn 18 = .ok (.getfield 38, 3) := by decide +kernel
theorem dX6_waitsOn_21 : decode cX6_waitsOn 21 = .ok (.iload_n 1, 1) := by decide +kernel
theorem dX6_waitsOn_22 : decode cX6_waitsOn 22 = .ok (.iaload, 1) := by decide +kernel
theorem dX6_waitsOn_23 : decode cX6_waitsOn 23 = .ok (.iconst 1, 1) := by decide +kernel
theorem dX6_waitsOn_24 : decode cX6_waitsOn 24 = .ok (.isub, 1) := by decide +kernel
theorem dX6_waitsOn_25 : decode cX6_waitsOn 25 = .ok (.iaload, 1) := by decide +kernel
theorem dX6_waitsOn_26 : decode cX6_waitsOn 26 = .ok (.iconst 1, 1) := by decide +kernel
theorem dX6_waitsOn_27 : decode cX6_waitsOn 27 = .ok (.isub, 1) := by decide +kernel
theorem dX6_waitsOn_28 : decode cX6_waitsOn 28 = .ok (.ireturn, 1) := by decide +kernel
set_option maxRecDepth 20000 in
theorem ggX6_ring_X6_waitsOn : GoodIn wsX6_ring wsX6_waitsOn := goodIn_r _ [7, 8, 9, 24, 25, 26, 27, 28, 29, 30, 31, 32, 33, 34, 35, 36, 37, 38, 39, 40, 41, 42, 43, 44, 45, 46, 47, 48, 49, 50, 51, 52] (by decide +kernel) (by decide +kernel)
set_option maxRecDepth 20000 in
theorem gX6_ring_X6_waitsOn : GoodIn wsX6_ring (wsV RX6 136 RX6 yX6_waitsOn wsX6_waitsOn) := goodIn_app (goodIn_of _ (by decide +kernel)) ggX6_ring_X6_waitsOn
set_option maxRecDepth 20000 in
theorem ggX6_ring_X6_undo : GoodIn wsX6_ring wsX6_undo := goodIn_r _ [13, 14, 15, 16, 17, 18, 19, 20, 21, 22, 6, 23, 9, 8, 24, 25, 26, 27, 28, 29, 30, 31, 32, 33, 34, 35, 36, 37, 38, 39, 40, 41, 42, 43, 44, 45, 46, 47, 48, 49, 50, 51, 52] (by decide +kernel) (by decide +kernel)
set_option maxRecDepth 20000 in
theorem gX6_ring_X6_undo : GoodIn wsX6_ring (wsV RX6 125 RX6 yX6_undo wsX6_undo) := goodIn_app (goodIn_of _ (by decide +kernel)) ggX6_ring_X6_undo
theorem dX6_ring_0 : decode cX6_ring 0 = .ok (.aload_n 0, 1) := by decide +kernel
theorem dX6_ring_1 : decode cX6_ring 1 = .ok (.iconst 0, 1) := by decide +kernel
theorem dX6_ring_2 : decode cX6_ring 2 = .ok (.putfield 80, 3) := by decide +kernel
theorem dX6_ring_5 : decode cX6_ring 5 = .ok (.iconst 0, 1) := by decide +kernel
theorem dX6_ring_6 : decode cX6_ring 6 = .ok (.istore_n 1, 1) := by decide +kernel
theorem dX6_ring_7 : decode cX6_ring 7 = .ok (.iload_n 1, 1) := by decide +kernel
theorem dX6_ring_8 : decode cX6_ring 8 = .ok (.aload_n 0, 1) := by decide +kernel
theorem dX6_ring_9 : decode cX6_ring 9 = .ok (.getfield 84, 3) := by decide +kernel
theorem dX6_ring_12 : decode cX6_ring 12 = .ok (.if_icmp .ge 77, 3) := by decide +kernel
theorem dX6_ring_15 : decode cX6_ring 15 = .ok (.iload_n 1, 1) := by decide +kernel
theorem dX6_ring_16 : decode cX6_ring 16 = .ok (.istore_n 2, 1) := by decide +kernel
theorem dX6_ring_17 : decode cX6_ring 17 = .ok (.aload_n 0, 1) := by decide +kernel
theorem dX6_ring_18 : decode cX6_ring 18 = .ok (.iload_n 1, 1) := by decide +kernel
theorem dX6_ring_19 : decode cX6_ring 19 = .ok (.invokevirtual 136, 3) := by decide +kernel
theorem dX6_ring_22 : decode cX6_ring 22 = .ok (.istore_n 3, 1) := by decide +kernel
theorem dX6_ring_23 : decode cX6_ring 23 = .ok (.iconst 0, 1) := by decide +kernel
theorem dX6_ring_24 : decode cX6_ring 24 = .ok (.istore 4, 2) := by decide +kernel
theorem dX6_ring_26 : decode cX6_ring 26 = .ok (.iload 4, 2) := by decide +kernel
theorem dX6_ring_28 : decode cX6_ring 28 = .ok (.aload_n 0, 1) := by decide +kernel
theorem dX6_ring_29 : decode cX6_ring 29 = .ok (.getfield 84, 3) := by decide +kernel
theorem dX6_ring_32 : decode cX6_ring 32 = .ok (.if_icmp .ge 35, 3) := by decide +kernel
theorem dX6_ring_35 : decode cX6_ring 35 = .ok (.iload_n 3, 1) := by decide +kernel
theorem dX6_ring_36 : decode cX6_ring 36 = .ok (.ifCond .lt 31, 3) := by decide +kernel
theorem dX6_ring_39 : decode cX6_ring 39 = .ok (.iload_n 3, 1) := by decide +kernel
theorem dX6_ring_40 : decode cX6_ring 40 = .ok (.iload_n 1, 1) := by decide +kernel
theorem dX6_ring_41 : decode cX6_ring 41 = .ok (.if_icmp .eq 26, 3) := by decide +kernel
theorem dX6_ring_44 : decode cX6_ring 44 = .ok (.iload_n 3, 1) := by decide +kernel
theorem dX6_ring_45 : decode cX6_ring 45 = .ok (.iload_n 2, 1) := by decide +kernel
theorem dX6_ring_46 : decode cX6_ring 46 = .ok (.if_icmp .le 7, 3) := by decide +kernel
theorem dX6_ring_49 : decode cX6_ring 49 = .ok (.iload_n 3, 1) := by decide +kernel
theorem dX6_ring_50 : decode cX6_ring 50 = .ok (.goto 4, 3) := by decide +kernel
theorem dX6_ring_53 : decode cX6_ring 53 = .ok (.iload_n 2, 1) := by decide +kernel
theorem dX6_ring_54 : decode cX6_ring 54 = .ok (.istore_n 2, 1) := by decide +kernel
theorem dX6_ring_55 : decode cX6_ring 55 = .ok (.aload_n 0, 1) := by decide +kernel
theorem dX6_ring_56 : decode cX6_ring 56 = .ok (.iload_n 3, 1) := by decide +kernel
theorem dX6_ring_57 : decode cX6_ring 57 = .ok (.invokevirtual 136, 3) := by decide +kernel
theorem dX6_ring_60 : decode cX6_ring 60 = .ok (.istore_n 3, 1) := by decide +kernel
theorem dX6_ring_61 : decode cX6_ring 61 = .ok (.iinc 4 1, 3) := by decide +kernel
theorem dX6_ring_64 : decode cX6_ring 64 = .ok (.goto (-38), 3) := by decide +kernel
theorem dX6_ring_67 : decode cX6_ring 67 = .ok (.iload_n 3, 1) := by decide +kernel
theorem dX6_ring_68 : decode cX6_ring 68 = .ok (.iload_n 1, 1) := by decide +kernel
theorem dX6_ring_69 : decode cX6_ring 69 = .ok (.if_icmp .eq 6, 3) := by decide +kernel
theorem dX6_ring_72 : decode cX6_ring 72 = .ok (.goto 11, 3) := by decide +kernel
theorem dX6_ring_75 : decode cX6_ring 75 = .ok (.aload_n 0, 1) := by decide +kernel
theorem dX6_ring_76 : decode cX6_ring 76 = .ok (.iload_n 2, 1) := by decide +kernel
theorem dX6_ring_77 : decode cX6_ring 77 = .ok (.iconst 3, 1) := by decide +kernel
theorem dX6_ring_78 : decode cX6_ring 78 = .ok (.invokevirtual 125, 3) := by decide +kernel
theorem dX6_ring_81 : decode cX6_ring 81 = .ok (.iload_n 2, 1) := by decide +kernel
theorem dX6_ring_82 : decode cX6_ring 82 = .ok (.ireturn, 1) := by decide +kernel
theorem dX6_ring_83 : decode cX6_ring 83 = .ok (.iinc 1 1, 3) := by decide +kernel
theorem dX6_ring_86 : decode cX6_ring 86 = .ok (.goto (-79), 3) := by decide +kernel
theorem dX6_ring_89 : decode cX6_ring 89 = .ok (.iconst (-1), 1) := by decide +kernel
theorem dX6_ring_90 : decode cX6_ring 90 = .ok (.ireturn, 1) := by decide +kernel
set_option maxRecDepth 20000 in
theorem ggX6_interrupt_X6_isWork : GoodIn wsX6_interrupt wsX6_isWork := goodIn_r _ [8, 9, 10, 11, 7, 12, 28, 29, 30, 31, 32, 33, 34, 35, 36, 37, 38, 39, 40, 41, 42, 43, 44, 45, 46, 47, 48, 49, 50, 51, 52, 53, 54, 55, 56] (by decide +kernel) (by decide +kernel)
set_option maxRecDepth 20000 in
theorem gX6_interrupt_X6_isWork : GoodIn wsX6_interrupt (wsV RX6 91 RX6 yX6_isWork wsX6_isWork) := goodIn_app (goodIn_of _ (by decide +kernel)) ggX6_interrupt_X6_isWork
set_option maxRecDepth 20000 in
theorem ggX6_interrupt_X6_undo : GoodIn wsX6_interrupt wsX6_undo := goodIn_r _ [16, 17, 18, 19, 20, 21, 2, 22, 23, 24, 7, 25, 26, 27, 28, 29, 30, 31, 32, 33, 34, 35, 36, 37, 38, 39, 40, 41, 42, 43, 44, 45, 46, 47, 48, 49, 50, 51, 52, 53, 54, 55, 56] (by decide +kernel) (by decide +kernel)
set_option maxRecDepth 20000 in
theorem gX6_interrupt_X6_undo : GoodIn wsX6_interrupt (wsV RX6 125 RX6 yX6_undo wsX6_undo) := goodIn_app (goodIn_of _ (by decide +kernel)) ggX6_interrupt_X6_undo
theorem dX6_interrupt_0 : decode cX6_interrupt 0 = .ok (.aload_n 0, 1) := by decide +kernel
theorem dX6_interrupt_1 : decode cX6_interrupt 1 = .ok (.iconst 0, 1) := by decide +kernel
theorem dX6_interrupt_2 : decode cX6_interrupt 2 = .ok (.putfield 80, 3) := by decide +kernel
theorem dX6_interrupt_5 : decode cX6_interrupt 5 = .ok (.aload_n 0, 1) := by decide +kernel
theorem dX6_interrupt_6 : decode cX6_interrupt 6 = .ok (.iload_n 1, 1) := by decide +kernel
theorem dX6_interrupt_7 : decode cX6_interrupt 7 = .ok (.invokevirtual 91, 3) := by decide +kernel
theorem dX6_interrupt_10 : decode cX6_interrupt 10 = .ok (.ifCond .ne 5, 3) := by decide +kernel
theorem dX6_interrupt_13 : decode cX6_interrupt 13 = .ok (.iconst (-1), 1) := by decide +kernel
theorem dX6_interrupt_14 : decode cX6_interrupt 14 = .ok (.ireturn, 1) := by decide +kernel
theorem dX6_interrupt_15 : decode cX6_interrupt 15 = .ok (.aload_n 0, 1) := by decide +kernel
theorem dX6_interrupt_16 : decode cX6_interrupt 16 = .ok (.getfield 16, 3) := by decide +kernel
theorem dX6_interrupt_19 : decode cX6_interrupt 19 = .ok (.iload_n 1, 1) := by decide +kernel
theorem dX6_interrupt_20 : decode cX6_interrupt 20 = .ok (.iaload, 1) := by decide +kernel
theorem dX6_interrupt_21 : decode cX6_interrupt 21 = .ok (.ifCond .ne 23, 3) := by decide +kernel
theorem dX6_interrupt_24 : decode cX6_interrupt 24 = .ok (.aload_n 0, 1) := by decide +kernel
theorem dX6_interrupt_25 : decode cX6_interrupt 25 = .ok (.getfield 25, 3) := by decide +kernel
theorem dX6_interrupt_28 : decode cX6_interrupt 28 = .ok (.iload_n 1, 1) := by decide +kernel
theorem dX6_interrupt_29 : decode cX6_interrupt 29 = .ok (.iaload, 1) := by decide +kernel
theorem dX6_interrupt_30 : decode cX6_interrupt 30 = .ok (.iconst 3, 1) := by decide +kernel
theorem dX6_interrupt_31 : decode cX6_interrupt 31 = .ok (.if_icmp .eq 16, 3) := by decide +kernel
theorem dX6_interrupt_34 : decode cX6_interrupt 34 = .ok (.aload_n 0, 1) := by decide +kernel
theorem dX6_interrupt_35 : decode cX6_interrupt 35 = .ok (.getfield 25, 3) := by decide +kernel
theorem dX6_interrupt_38 : decode cX6_interrupt 38 = .ok (.iload_n 1, 1) := by decide +kernel
theorem dX6_interrupt_39 : decode cX6_interrupt 39 = .ok (.iaload, 1) := by decide +kernel
theorem dX6_interrupt_40 : decode cX6_interrupt 40 = .ok (.iconst 4, 1) := by decide +kernel
theorem dX6_interrupt_41 : decode cX6_interrupt 41 = .ok (.if_icmp .eq 6, 3) := by decide +kernel
theorem dX6_interrupt_44 : decode cX6_interrupt 44 = .ok (.bipush (-3), 2) := by decide +kernel
theorem dX6_interrupt_46 : decode cX6_interrupt 46 = .ok (.ireturn, 1) := by decide +kernel
theorem dX6_interrupt_47 : decode cX6_interrupt 47 = .ok (.aload_n 0, 1) := by decide +kernel
theorem dX6_interrupt_48 : decode cX6_interrupt 48 = .ok (.iload_n 1, 1) := by decide +kernel
theorem dX6_interrupt_49 : decode cX6_interrupt 49 = .ok (.iconst 4, 1) := by decide +kernel
theorem dX6_interrupt_50 : decode cX6_interrupt 50 = .ok (.invokevirtual 125, 3) := by decide +kernel
theorem dX6_interrupt_53 : decode cX6_interrupt 53 = .ok (.iconst 1, 1) := by decide +kernel
theorem dX6_interrupt_54 : decode cX6_interrupt 54 = .ok (.ireturn, 1) := by decide +kernel
set_option maxRecDepth 20000 in
theorem ggX6_again_X6_isWork : GoodIn wsX6_again wsX6_isWork := goodIn_r _ [12, 13, 14, 15, 11, 16, 17, 18, 19, 20, 21, 22, 23, 24, 25, 26, 27, 28, 29, 30, 31, 32, 33, 34, 35, 36, 37, 38, 39, 40, 41, 42, 43, 44, 45] (by decide +kernel) (by decide +kernel)
set_option maxRecDepth 20000 in
theorem gX6_again_X6_isWork : GoodIn wsX6_again (wsV RX6 91 RX6 yX6_isWork wsX6_isWork) := goodIn_app (goodIn_of _ (by decide +kernel)) ggX6_again_X6_isWork
set_option maxRecDepth 20000 in
theorem ggX6_again_X6_in : GoodIn wsX6_again wsX6_in := goodIn_r _ [16] (by decide +kernel) (by decide +kernel)
set_option maxRecDepth 20000 in
theorem gX6_again_X6_in : GoodIn wsX6_again (va_wsS RX6 87 yX6_in wsX6_in) := goodIn_app (goodIn_of _ (by decide +kernel)) ggX6_again_X6_in
theorem dX6_again_0 : decode cX6_again 0 = .ok (.aload_n 0, 1) := by decide +kernel
theorem dX6_again_1 : decode cX6_again 1 = .ok (.iconst 0, 1) := by decide +kernel
theorem dX6_again_2 : decode cX6_again 2 = .ok (.putfield 80, 3) := by decide +kernel
theorem dX6_again_5 : decode cX6_again 5 = .ok (.aload_n 0, 1) := by decide +kernel
theorem dX6_again_6 : decode cX6_again 6 = .ok (.iload_n 1, 1) := by decide +kernel
theorem dX6_again_7 : decode cX6_again 7 = .ok (.invokevirtual 91, 3) := by decide +kernel
theorem dX6_again_10 : decode cX6_again 10 = .ok (.ifCond .ne 5, 3) := by decide +kernel
theorem dX6_again_13 : decode cX6_again 13 = .ok (.iconst (-1), 1) := by decide +kernel
theorem dX6_again_14 : decode cX6_again 14 = .ok (.ireturn, 1) := by decide +kernel
theorem dX6_again_15 : decode cX6_again 15 = .ok (.aload_n 0, 1) := by decide +kernel
theorem dX6_again_16 : decode cX6_again 16 = .ok (.getfield 16, 3) := by decide +kernel
theorem dX6_again_19 : decode cX6_again 19 = .ok (.iload_n 1, 1) := by decide +kernel
theorem dX6_again_20 : decode cX6_again 20 = .ok (.iaload, 1) := by decide +kernel
theorem dX6_again_21 : decode cX6_again 21 = .ok (.iconst 2, 1) := by decide +kernel
theorem dX6_again_22 : decode cX6_again 22 = .ok (.iconst 4, 1) := by decide +kernel
theorem dX6_again_23 : decode cX6_again 23 = .ok (.invokestatic 87, 3) := by decide +kernel
theorem dX6_again_26 : decode cX6_again 26 = .ok (.ifCond .ne 6, 3) := by decide +kernel
theorem dX6_again_29 : decode cX6_again 29 = .ok (.bipush (-3), 2) := by decide +kernel
theorem dX6_again_31 : decode cX6_again 31 = .ok (.ireturn, 1) := by decide +kernel
theorem dX6_again_32 : decode cX6_again 32 = .ok (.aload_n 0, 1) := by decide +kernel
theorem dX6_again_33 : decode cX6_again 33 = .ok (.getfield 16, 3) := by decide +kernel
theorem dX6_again_36 : decode cX6_again 36 = .ok (.iload_n 1, 1) := by decide +kernel
theorem dX6_again_37 : decode cX6_again 37 = .ok (.iconst 0, 1) := by decide +kernel
theorem dX6_again_38 : decode cX6_again 38 = .ok (.iastore, 1) := by decide +kernel
theorem dX6_again_39 : decode cX6_again 39 = .ok (.aload_n 0, 1) := by decide +kernel
theorem dX6_again_40 : decode cX6_again 40 = .ok (.getfield 19, 3) := by decide +kernel
theorem dX6_again_43 : decode cX6_again 43 = .ok (.iload_n 1, 1) := by decide +kernel
theorem dX6_again_44 : decode cX6_again 44 = .ok (.iconst 0, 1) := by decide +kernel
theorem dX6_again_45 : decode cX6_again 45 = .ok (.iastore, 1) := by decide +kernel
theorem dX6_again_46 : decode cX6_again 46 = .ok (.aload_n 0, 1) := by decide +kernel
theorem dX6_again_47 : decode cX6_again 47 = .ok (.getfield 22, 3) := by decide +kernel
theorem dX6_again_50 : decode cX6_again 50 = .ok (.iload_n 1, 1) := by decide +kernel
theorem dX6_again_51 : decode cX6_again 51 = .ok (.iconst 0, 1) := by decide +kernel
theorem dX6_again_52 : decode cX6_again 52 = .ok (.iastore, 1) := by decide +kernel
theorem dX6_again_53 : decode cX6_again 53 = .ok (.aload_n 0, 1) := by decide +kernel
theorem dX6_again_54 : decode cX6_again 54 = .ok (.getfield 25, 3) := by decide +kernel
theorem dX6_again_57 : decode cX6_again 57 = .ok (.iload_n 1, 1) := by decide +kernel
theorem dX6_again_58 : decode cX6_again 58 = .ok (.iconst 0, 1) := by decide +kernel
theorem dX6_again_59 : decode cX6_again 59 = .ok (.iastore, 1) := by decide +kernel
theorem dX6_again_60 : decode cX6_again 60 = .ok (.aload_n 0, 1) := by decide +kernel
theorem dX6_again_61 : decode cX6_again 61 = .ok (.getfield 13, 3) := by decide +kernel
theorem dX6_again_64 : decode cX6_again 64 = .ok (.iload_n 1, 1) := by decide +kernel
theorem dX6_again_65 : decode cX6_again 65 = .ok (.iconst (-1), 1) := by decide +kernel
theorem dX6_again_66 : decode cX6_again 66 = .ok (.iastore, 1) := by decide +kernel
theorem dX6_again_67 : decode cX6_again 67 = .ok (.aload_n 0, 1) := by decide +kernel
theorem dX6_again_68 : decode cX6_again 68 = .ok (.getfield 35, 3) := by decide +kernel
theorem dX6_again_71 : decode cX6_again 71 = .ok (.iload_n 1, 1) := by decide +kernel
theorem dX6_again_72 : decode cX6_again 72 = .ok (.dup2, 1) := by decide +kernel
theorem dX6_again_73 : decode cX6_again 73 = .ok (.iaload, 1) := by decide +kernel
theorem dX6_again_74 : decode cX6_again 74 = .ok (.iconst 1, 1) := by decide +kernel
theorem dX6_again_75 : decode cX6_again 75 = .ok (.iadd, 1) := by decide +kernel
theorem dX6_again_76 : decode cX6_again 76 = .ok (.iastore, 1) := by decide +kernel
theorem dX6_again_77 : decode cX6_again 77 = .ok (.aload_n 0, 1) := by decide +kernel
theorem dX6_again_78 : decode cX6_again 78 = .ok (.getfield 35, 3) := by decide +kernel
theorem dX6_again_81 : decode cX6_again 81 = .ok (.iload_n 1, 1) := by decide +kernel
theorem dX6_again_82 : decode cX6_again 82 = .ok (.iaload, 1) := by decide +kernel
theorem dX6_again_83 : decode cX6_again 83 = .ok (.ireturn, 1) := by decide +kernel
set_option maxRecDepth 20000 in
theorem ggX6_close_X6_undo : GoodIn wsX6_close wsX6_undo := goodIn_r _ [8, 9, 10, 11, 12, 13, 3, 14, 15, 16, 7, 17, 18, 19, 20, 21, 22, 23, 24, 25, 26, 27, 28, 29, 30, 31, 32, 33, 34, 35, 36, 37, 38, 39, 40, 41, 42, 43, 44, 45, 46, 47, 48] (by decide +kernel) (by decide +kernel)
set_option maxRecDepth 20000 in
theorem gX6_close_X6_undo : GoodIn wsX6_close (wsV RX6 125 RX6 yX6_undo wsX6_undo) := goodIn_app (goodIn_of _ (by decide +kernel)) ggX6_close_X6_undo
theorem dX6_close_0 : decode cX6_close 0 = .ok (.aload_n 0, 1) := by decide +kernel
theorem dX6_close_1 : decode cX6_close 1 = .ok (.iconst 0, 1) := by decide +kernel
theorem dX6_close_2 : decode cX6_close 2 = .ok (.putfield 80, 3) := by decide +kernel
theorem dX6_close_5 : decode cX6_close 5 = .ok (.iconst 0, 1) := by decide +kernel
theorem dX6_close_6 : decode cX6_close 6 = .ok (.istore_n 1, 1) := by decide +kernel
theorem dX6_close_7 : decode cX6_close 7 = .ok (.aload_n 0, 1) := by decide +kernel
theorem dX6_close_8 : decode cX6_close 8 = .ok (.getfield 84, 3) := by decide +kernel
theorem dX6_close_11 : decode cX6_close 11 = .ok (.iconst 1, 1) := by decide +kernel
theorem dX6_close_12 : decode cX6_close 12 = .ok (.isub, 1) := by decide +kernel
theorem dX6_close_13 : decode cX6_close 13 = .ok (.istore_n 2, 1) := by decide +kernel
theorem dX6_close_14 : decode cX6_close 14 = .ok (.iload_n 2, 1) := by decide +kernel
theorem dX6_close_15 : decode cX6_close 15 = .ok (.ifCond .lt 30, 3) := by decide +kernel
theorem dX6_close_18 : decode cX6_close 18 = .ok (.aload_n 0, 1) := by decide +kernel
theorem dX6_close_19 : decode cX6_close 19 = .ok (.getfield 16, 3) := by decide +kernel
theorem dX6_close_22 : decode cX6_close 22 = .ok (.iload_n 2, 1) := by decide +kernel
theorem dX6_close_23 : decode cX6_close 23 = .ok (.iaload, 1) := by decide +kernel
theorem dX6_close_24 : decode cX6_close 24 = .ok (.ifCond .eq 6, 3) := by decide +kernel
theorem dX6_close_27 : decode cX6_close 27 = .ok (.goto 12, 3) := by decide +kernel
theorem dX6_close_30 : decode cX6_close 30 = .ok (.aload_n 0, 1) := by decide +kernel
theorem dX6_close_31 : decode cX6_close 31 = .ok (.iload_n 2, 1) := by decide +kernel
theorem dX6_close_32 : decode cX6_close 32 = .ok (.iconst 5, 1) := by decide +kernel
theorem dX6_close_33 : decode cX6_close 33 = .ok (.invokevirtual 125, 3) := by decide +kernel
theorem dX6_close_36 : decode cX6_close 36 = .ok (.iinc 1 1, 3) := by decide +kernel
theorem dX6_close_39 : decode cX6_close 39 = .ok (.iinc 2 (-1), 3) := by decide +kernel
theorem dX6_close_42 : decode cX6_close 42 = .ok (.goto (-28), 3) := by decide +kernel
theorem dX6_close_45 : decode cX6_close 45 = .ok (.iload_n 1, 1) := by decide +kernel
theorem dX6_close_46 : decode cX6_close 46 = .ok (.ireturn, 1) := by decide +kernel
set_option maxRecDepth 20000 in
theorem ggX6_state_X6_isWork : GoodIn wsX6_state wsX6_isWork := goodIn_r _ [11, 12, 13, 14, 10, 15, 16, 17, 18, 19, 20, 21, 22, 23, 24, 25, 26, 27, 28, 29, 30, 31, 32, 33, 34, 35, 36, 37, 38, 39, 40, 41, 42, 43, 44] (by decide +kernel) (by decide +kernel)
set_option maxRecDepth 20000 in
theorem gX6_state_X6_isWork : GoodIn wsX6_state (wsV RX6 91 RX6 yX6_isWork wsX6_isWork) := goodIn_app (goodIn_of _ (by decide +kernel)) ggX6_state_X6_isWork
theorem dX6_state_0 : decode cX6_state 0 = .ok (.aload_n 0, 1) := by decide +kernel
theorem dX6_state_1 : decode cX6_state 1 = .ok (.iconst 0, 1) := by decide +kernel
theorem dX6_state_2 : decode cX6_state 2 = .ok (.putfield 80, 3) := by decide +kernel
theorem dX6_state_5 : decode cX6_state 5 = .ok (.aload_n 0, 1) := by decide +kernel
theorem dX6_state_6 : decode cX6_state 6 = .ok (.iload_n 1, 1) := by decide +kernel
theorem dX6_state_7 : decode cX6_state 7 = .ok (.invokevirtual 91, 3) := by decide +kernel
theorem dX6_state_10 : decode cX6_state 10 = .ok (.ifCond .ne 5, 3) := by decide +kernel
theorem dX6_state_13 : decode cX6_state 13 = .ok (.iconst (-1), 1) := by decide +kernel
theorem dX6_state_14 : decode cX6_state 14 = .ok (.ireturn, 1) := by decide +kernel
theorem dX6_state_15 : decode cX6_state 15 = .ok (.iload_n 2, 1) := by decide +kernel
theorem dX6_state_16 : decode cX6_state 16 = .ok (.tableswitch 105 0 4 #[36, 43, 50, 57, 98], 36) := by decide +kernel
theorem dX6_state_52 : decode cX6_state 52 = .ok (.aload_n 0, 1) := by decide +kernel
theorem dX6_state_53 : decode cX6_state 53 = .ok (.getfield 16, 3) := by decide +kernel
theorem dX6_state_56 : decode cX6_state 56 = .ok (.iload_n 1, 1) := by decide +kernel
theorem dX6_state_57 : decode cX6_state 57 = .ok (.iaload, 1) := by decide +kernel
theorem dX6_state_58 : decode cX6_state 58 = .ok (.ireturn, 1) := by decide +kernel
theorem dX6_state_59 : decode cX6_state 59 = .ok (.aload_n 0, 1) := by decide +kernel
theorem dX6_state_60 : decode cX6_state 60 = .ok (.getfield 19, 3) := by decide +kernel
theorem dX6_state_63 : decode cX6_state 63 = .ok (.iload_n 1, 1) := by decide +kernel
theorem dX6_state_64 : decode cX6_state 64 = .ok (.iaload, 1) := by decide +kernel
theorem dX6_state_65 : decode cX6_state 65 = .ok (.ireturn, 1) := by decide +kernel
theorem dX6_state_66 : decode cX6_state 66 = .ok (.aload_n 0, 1) := by decide +kernel
theorem dX6_state_67 : decode cX6_state 67 = .ok (.getfield 22, 3) := by decide +kernel
theorem dX6_state_70 : decode cX6_state 70 = .ok (.iload_n 1, 1) := by decide +kernel
theorem dX6_state_71 : decode cX6_state 71 = .ok (.iaload, 1) := by decide +kernel
theorem dX6_state_72 : decode cX6_state 72 = .ok (.ireturn, 1) := by decide +kernel
theorem dX6_state_73 : decode cX6_state 73 = .ok (.iconst 0, 1) := by decide +kernel
theorem dX6_state_74 : decode cX6_state 74 = .ok (.istore_n 3, 1) := by decide +kernel
theorem dX6_state_75 : decode cX6_state 75 = .ok (.iconst 0, 1) := by decide +kernel
theorem dX6_state_76 : decode cX6_state 76 = .ok (.istore 4, 2) := by decide +kernel
theorem dX6_state_78 : decode cX6_state 78 = .ok (.iload 4, 2) := by decide +kernel
theorem dX6_state_80 : decode cX6_state 80 = .ok (.bipush 10, 2) := by decide +kernel
theorem dX6_state_82 : decode cX6_state 82 = .ok (.if_icmp .ge 30, 3) := by decide +kernel
theorem dX6_state_85 : decode cX6_state 85 = .ok (.iload_n 3, 1) := by decide +kernel
theorem dX6_state_86 : decode cX6_state 86 = .ok (.aload_n 0, 1) := by decide +kernel
theorem dX6_state_87 : decode cX6_state 87 = .ok (.getfield 56, 3) := by decide +kernel
theorem dX6_state_90 : decode cX6_state 90 = .ok (.iload 4, 2) := by decide +kernel
theorem dX6_state_92 : decode cX6_state 92 = .ok (.iaload, 1) := by decide +kernel
theorem dX6_state_93 : decode cX6_state 93 = .ok (.iload_n 1, 1) := by decide +kernel
theorem dX6_state_94 : decode cX6_state 94 = .ok (.iconst 1, 1) := by decide +kernel
theorem dX6_state_95 : decode cX6_state 95 = .ok (.iadd, 1) := by decide +kernel
theorem dX6_state_96 : decode cX6_state 96 = .ok (.if_icmp .ne 7, 3) := by decide +kernel
theorem dX6_state_99 : decode cX6_state 99 = .ok (.iconst 1, 1) := by decide +kernel
theorem dX6_state_100 : decode cX6_state 100 = .ok (.goto 4, 3) := by decide +kernel
theorem dX6_state_103 : decode cX6_state 103 = .ok (.iconst 0, 1) := by decide +kernel
theorem dX6_state_104 : decode cX6_state 104 = .ok (.iadd, 1) := by decide +kernel
theorem dX6_state_105 : decode cX6_state 105 = .ok (.istore_n 3, 1) := by decide +kernel
theorem dX6_state_106 : decode cX6_state 106 = .ok (.iinc 4 1, 3) := by decide +kernel
theorem dX6_state_109 : decode cX6_state 109 = .ok (.goto (-31), 3) := by decide +kernel
theorem dX6_state_112 : decode cX6_state 112 = .ok (.iload_n 3, 1) := by decide +kernel
theorem dX6_state_113 : decode cX6_state 113 = .ok (.ireturn, 1) := by decide +kernel
theorem dX6_state_114 : decode cX6_state 114 = .ok (.aload_n 0, 1) := by decide +kernel
theorem dX6_state_115 : decode cX6_state 115 = .ok (.getfield 32, 3) := by decide +kernel
theorem dX6_state_118 : decode cX6_state 118 = .ok (.iload_n 1, 1) := by decide +kernel
theorem dX6_state_119 : decode cX6_state 119 = .ok (.iaload, 1) := by decide +kernel
theorem dX6_state_120 : decode cX6_state 120 = .ok (.ireturn, 1) := by decide +kernel
theorem dX6_state_121 : decode cX6_state 121 = .ok (.iconst (-1), 1) := by decide +kernel
theorem dX6_state_122 : decode cX6_state 122 = .ok (.ireturn, 1) := by decide +kernel
set_option maxRecDepth 20000 in
theorem ggX6_has_X6_in : GoodIn wsX6_has wsX6_in := goodIn_r _ [6] (by decide +kernel) (by decide +kernel)
set_option maxRecDepth 20000 in
theorem gX6_has_X6_in : GoodIn wsX6_has (va_wsS RX6 87 yX6_in wsX6_in) := goodIn_app (goodIn_of _ (by decide +kernel)) ggX6_has_X6_in
theorem dX6_has_0 : decode cX6_has 0 = .ok (.aload_n 0, 1) := by decide +kernel
theorem dX6_has_1 : decode cX6_has 1 = .ok (.iconst 0, 1) := by decide +kernel
theorem dX6_has_2 : decode cX6_has 2 = .ok (.putfield 80, 3) := by decide +kernel
theorem dX6_has_5 : decode cX6_has 5 = .ok (.iload_n 1, 1) := by decide +kernel
theorem dX6_has_6 : decode cX6_has 6 = .ok (.iconst 0, 1) := by decide +kernel
theorem dX6_has_7 : decode cX6_has 7 = .ok (.bipush 9, 2) := by decide +kernel
theorem dX6_has_9 : decode cX6_has 9 = .ok (.invokestatic 87, 3) := by decide +kernel
theorem dX6_has_12 : decode cX6_has 12 = .ok (.ifCond .eq 14, 3) := by decide +kernel
theorem dX6_has_15 : decode cX6_has 15 = .ok (.aload_n 0, 1) := by decide +kernel
theorem dX6_has_16 : decode cX6_has 16 = .ok (.getfield 56, 3) := by decide +kernel
theorem dX6_has_19 : decode cX6_has 19 = .ok (.iload_n 1, 1) := by decide +kernel
theorem dX6_has_20 : decode cX6_has 20 = .ok (.iaload, 1) := by decide +kernel
theorem dX6_has_21 : decode cX6_has 21 = .ok (.iconst 1, 1) := by decide +kernel
theorem dX6_has_22 : decode cX6_has 22 = .ok (.isub, 1) := by decide +kernel
theorem dX6_has_23 : decode cX6_has 23 = .ok (.goto 4, 3) := by decide +kernel
theorem dX6_has_26 : decode cX6_has 26 = .ok (.iconst (-1), 1) := by decide +kernel
theorem dX6_has_27 : decode cX6_has 27 = .ok (.ireturn, 1) := by decide +kernel
set_option maxRecDepth 20000 in
theorem ggX6_line_X6_in : GoodIn wsX6_line wsX6_in := goodIn_r _ [7] (by decide +kernel) (by decide +kernel)
set_option maxRecDepth 20000 in
theorem gX6_line_X6_in : GoodIn wsX6_line (va_wsS RX6 87 yX6_in wsX6_in) := goodIn_app (goodIn_of _ (by decide +kernel)) ggX6_line_X6_in
set_option maxRecDepth 20000 in
theorem ggX6_line_X6_ahead : GoodIn wsX6_line wsX6_ahead := goodIn_r _ [11, 2, 3, 12, 13, 14, 15, 16, 17, 18, 19, 20, 21, 22, 23, 24, 25, 26, 27, 28, 29, 30, 31, 32, 33, 34, 35, 36, 37, 38, 39, 40, 41] (by decide +kernel) (by decide +kernel)
set_option maxRecDepth 20000 in
theorem gX6_line_X6_ahead : GoodIn wsX6_line (wsV RX6 102 RX6 yX6_ahead wsX6_ahead) := goodIn_app (goodIn_of _ (by decide +kernel)) ggX6_line_X6_ahead
theorem dX6_line_0 : decode cX6_line 0 = .ok (.aload_n 0, 1) := by decide +kernel
theorem dX6_line_1 : decode cX6_line 1 = .ok (.iconst 0, 1) := by decide +kernel
theorem dX6_line_2 : decode cX6_line 2 = .ok (.putfield 80, 3) := by decide +kernel
theorem dX6_line_5 : decode cX6_line 5 = .ok (.iconst 0, 1) := by decide +kernel
theorem dX6_line_6 : decode cX6_line 6 = .ok (.istore_n 3, 1) := by decide +kernel
theorem dX6_line_7 : decode cX6_line 7 = .ok (.iload_n 3, 1) := by decide +kernel
theorem dX6_line_8 : decode cX6_line 8 = .ok (.aload_n 0, 1) := by decide +kernel
theorem dX6_line_9 : decode cX6_line 9 = .ok (.getfield 84, 3) := by decide +kernel
theorem dX6_line_12 : decode cX6_line 12 = .ok (.if_icmp .ge 43, 3) := by decide +kernel
theorem dX6_line_15 : decode cX6_line 15 = .ok (.iload_n 1, 1) := by decide +kernel
theorem dX6_line_16 : decode cX6_line 16 = .ok (.iconst 0, 1) := by decide +kernel
theorem dX6_line_17 : decode cX6_line 17 = .ok (.bipush 9, 2) := by decide +kernel
theorem dX6_line_19 : decode cX6_line 19 = .ok (.invokestatic 87, 3) := by decide +kernel
theorem dX6_line_22 : decode cX6_line 22 = .ok (.ifCond .eq 33, 3) := by decide +kernel
theorem dX6_line_25 : decode cX6_line 25 = .ok (.aload_n 0, 1) := by decide +kernel
theorem dX6_line_26 : decode cX6_line 26 = .ok (.getfield 38, 3) := by decide +kernel
theorem dX6_line_29 : decode cX6_line 29 = .ok (.iload_n 3, 1) := by decide +kernel
theorem dX6_line_30 : decode cX6_line 30 = .ok (.iaload, 1) := by decide +kernel
theorem dX6_line_31 : decode cX6_line 31 = .ok (.iload_n 1, 1) := by decide +kernel
theorem dX6_line_32 : decode cX6_line 32 = .ok (.iconst 1, 1) := by decide +kernel
theorem dX6_line_33 : decode cX6_line 33 = .ok (.iadd, 1) := by decide +kernel
theorem dX6_line_34 : decode cX6_line 34 = .ok (.if_icmp .ne 15, 3) := by decide +kernel
end
section
theorem dX6_line_37 : decode cX6_line 37 = .ok (.aload_n 0, 1) := by decide +kernel
theorem dX6_line_38 : decode cX6_line 38 = .ok (.iload_n 1, 1) := by decide +kernel
theorem dX6_line_39 : decode cX6_line 39 = .ok (.iload_n 3, 1) := by decide +kernel
theorem dX6_line_40 : decode cX6_line 40 = .ok (.invokevirtual 102, 3) := by decide +kernel
theorem dX6_line_43 : decode cX6_line 43 = .ok (.iload_n 2, 1) := by decide +kernel
theorem dX6_line_44 : decode cX6_line 44 = .ok (.if_icmp .ne 5, 3) := by decide +kernel
theorem dX6_line_47 : decode cX6_line 47 = .ok (.iload_n 3, 1) := by decide +kernel
theorem dX6_line_48 : decode cX6_line 48 = .ok (.ireturn, 1) := by decide +kernel
theorem dX6_line_49 : decode cX6_line 49 = .ok (.iinc 3 1, 3) := by decide +kernel
theorem dX6_line_52 : decode cX6_line 52 = .ok (.goto (-45), 3) := by decide +kernel
theorem dX6_line_55 : decode cX6_line 55 = .ok (.iconst (-1), 1) := by decide +kernel
theorem dX6_line_56 : decode cX6_line 56 = .ok (.ireturn, 1) := by decide +kernel
set_option maxRecDepth 20000 in
theorem ggX6_value_X6_in : GoodIn wsX6_value wsX6_in := goodIn_r _ [6] (by decide +kernel) (by decide +kernel)
set_option maxRecDepth 20000 in
theorem gX6_value_X6_in : GoodIn wsX6_value (va_wsS RX6 87 yX6_in wsX6_in) := goodIn_app (goodIn_of _ (by decide +kernel)) ggX6_value_X6_in
theorem dX6_value_0 : decode cX6_value 0 = .ok (.aload_n 0, 1) := by decide +kernel
theorem dX6_value_1 : decode cX6_value 1 = .ok (.iload_n 1, 1) := by decide +kernel
theorem dX6_value_2 : decode cX6_value 2 = .ok (.iconst 0, 1) := by decide +kernel
theorem dX6_value_3 : decode cX6_value 3 = .ok (.bipush 9, 2) := by decide +kernel
theorem dX6_value_5 : decode cX6_value 5 = .ok (.invokestatic 87, 3) := by decide +kernel
theorem dX6_value_8 : decode cX6_value 8 = .ok (.ifCond .eq 7, 3) := by decide +kernel
theorem dX6_value_11 : decode cX6_value 11 = .ok (.iconst 0, 1) := by decide +kernel
theorem dX6_value_12 : decode cX6_value 12 = .ok (.goto 4, 3) := by decide +kernel
theorem dX6_value_15 : decode cX6_value 15 = .ok (.iconst 1, 1) := by decide +kernel
theorem dX6_value_16 : decode cX6_value 16 = .ok (.putfield 80, 3) := by decide +kernel
theorem dX6_value_19 : decode cX6_value 19 = .ok (.aload_n 0, 1) := by decide +kernel
theorem dX6_value_20 : decode cX6_value 20 = .ok (.getfield 80, 3) := by decide +kernel
theorem dX6_value_23 : decode cX6_value 23 = .ok (.ifCond .le 7, 3) := by decide +kernel
theorem dX6_value_26 : decode cX6_value 26 = .ok (.iconst 0, 1) := by decide +kernel
theorem dX6_value_27 : decode cX6_value 27 = .ok (.goto 9, 3) := by decide +kernel
theorem dX6_value_30 : decode cX6_value 30 = .ok (.aload_n 0, 1) := by decide +kernel
theorem dX6_value_31 : decode cX6_value 31 = .ok (.getfield 59, 3) := by decide +kernel
theorem dX6_value_34 : decode cX6_value 34 = .ok (.iload_n 1, 1) := by decide +kernel
theorem dX6_value_35 : decode cX6_value 35 = .ok (.iaload, 1) := by decide +kernel
theorem dX6_value_36 : decode cX6_value 36 = .ok (.ireturn, 1) := by decide +kernel
set_option maxRecDepth 20000 in
theorem ggX6_log_X6_in : GoodIn wsX6_log wsX6_in := goodIn_r _ [7] (by decide +kernel) (by decide +kernel)
set_option maxRecDepth 20000 in
theorem gX6_log_X6_in : GoodIn wsX6_log (va_wsS RX6 87 yX6_in wsX6_in) := goodIn_app (goodIn_of _ (by decide +kernel)) ggX6_log_X6_in
theorem dX6_log_0 : decode cX6_log 0 = .ok (.aload_n 0, 1) := by decide +kernel
theorem dX6_log_1 : decode cX6_log 1 = .ok (.iconst 0, 1) := by decide +kernel
theorem dX6_log_2 : decode cX6_log 2 = .ok (.putfield 80, 3) := by decide +kernel
theorem dX6_log_5 : decode cX6_log 5 = .ok (.iload_n 1, 1) := by decide +kernel
theorem dX6_log_6 : decode cX6_log 6 = .ok (.iconst 0, 1) := by decide +kernel
theorem dX6_log_7 : decode cX6_log 7 = .ok (.aload_n 0, 1) := by decide +kernel
theorem dX6_log_8 : decode cX6_log 8 = .ok (.getfield 116, 3) := by decide +kernel
theorem dX6_log_11 : decode cX6_log 11 = .ok (.iconst 1, 1) := by decide +kernel
theorem dX6_log_12 : decode cX6_log 12 = .ok (.isub, 1) := by decide +kernel
theorem dX6_log_13 : decode cX6_log 13 = .ok (.invokestatic 87, 3) := by decide +kernel
theorem dX6_log_16 : decode cX6_log 16 = .ok (.ifCond .eq 12, 3) := by decide +kernel
theorem dX6_log_19 : decode cX6_log 19 = .ok (.aload_n 0, 1) := by decide +kernel
theorem dX6_log_20 : decode cX6_log 20 = .ok (.getfield 77, 3) := by decide +kernel
theorem dX6_log_23 : decode cX6_log 23 = .ok (.iload_n 1, 1) := by decide +kernel
theorem dX6_log_24 : decode cX6_log 24 = .ok (.iaload, 1) := by decide +kernel
theorem dX6_log_25 : decode cX6_log 25 = .ok (.goto 4, 3) := by decide +kernel
theorem dX6_log_28 : decode cX6_log 28 = .ok (.iconst (-1), 1) := by decide +kernel
theorem dX6_log_29 : decode cX6_log 29 = .ok (.ireturn, 1) := by decide +kernel
set_option maxRecDepth 20000 in
theorem ggX6_mail_X6_isWork : GoodIn wsX6_mail wsX6_isWork := goodIn_r _ [7, 8, 9, 10, 6, 11, 12, 13, 14, 15, 16, 17, 18, 19, 20, 21, 22, 23, 24, 25, 26, 27, 28, 29, 30, 31, 32, 33, 34, 35, 36, 37, 38, 39, 40] (by decide +kernel) (by decide +kernel)
set_option maxRecDepth 20000 in
theorem gX6_mail_X6_isWork : GoodIn wsX6_mail (wsV RX6 91 RX6 yX6_isWork wsX6_isWork) := goodIn_app (goodIn_of _ (by decide +kernel)) ggX6_mail_X6_isWork
theorem dX6_mail_0 : decode cX6_mail 0 = .ok (.aload_n 0, 1) := by decide +kernel
theorem dX6_mail_1 : decode cX6_mail 1 = .ok (.iconst 0, 1) := by decide +kernel
theorem dX6_mail_2 : decode cX6_mail 2 = .ok (.putfield 80, 3) := by decide +kernel
theorem dX6_mail_5 : decode cX6_mail 5 = .ok (.aload_n 0, 1) := by decide +kernel
theorem dX6_mail_6 : decode cX6_mail 6 = .ok (.iload_n 1, 1) := by decide +kernel
theorem dX6_mail_7 : decode cX6_mail 7 = .ok (.invokevirtual 91, 3) := by decide +kernel
theorem dX6_mail_10 : decode cX6_mail 10 = .ok (.ifCond .eq 25, 3) := by decide +kernel
theorem dX6_mail_13 : decode cX6_mail 13 = .ok (.aload_n 0, 1) := by decide +kernel
theorem dX6_mail_14 : decode cX6_mail 14 = .ok (.iload_n 2, 1) := by decide +kernel
theorem dX6_mail_15 : decode cX6_mail 15 = .ok (.invokevirtual 91, 3) := by decide +kernel
theorem dX6_mail_18 : decode cX6_mail 18 = .ok (.ifCond .eq 17, 3) := by decide +kernel
theorem dX6_mail_21 : decode cX6_mail 21 = .ok (.aload_n 0, 1) := by decide +kernel
theorem dX6_mail_22 : decode cX6_mail 22 = .ok (.getfield 62, 3) := by decide +kernel
theorem dX6_mail_25 : decode cX6_mail 25 = .ok (.bipush 12, 2) := by decide +kernel
theorem dX6_mail_27 : decode cX6_mail 27 = .ok (.iload_n 1, 1) := by decide +kernel
theorem dX6_mail_28 : decode cX6_mail 28 = .ok (.imul, 1) := by decide +kernel
theorem dX6_mail_29 : decode cX6_mail 29 = .ok (.iload_n 2, 1) := by decide +kernel
theorem dX6_mail_30 : decode cX6_mail 30 = .ok (.iadd, 1) := by decide +kernel
theorem dX6_mail_31 : decode cX6_mail 31 = .ok (.iaload, 1) := by decide +kernel
theorem dX6_mail_32 : decode cX6_mail 32 = .ok (.goto 5, 3) := by decide +kernel
theorem dX6_mail_35 : decode cX6_mail 35 = .ok (.bipush (-2), 2) := by decide +kernel
theorem dX6_mail_37 : decode cX6_mail 37 = .ok (.ireturn, 1) := by decide +kernel
theorem dJ9_max_7cf53_0 : decode cJ9_max_7cf53 0 = .ok (.iload_n 0, 1) := by decide +kernel
theorem dJ9_max_7cf53_1 : decode cJ9_max_7cf53 1 = .ok (.iload_n 1, 1) := by decide +kernel
theorem dJ9_max_7cf53_2 : decode cJ9_max_7cf53 2 = .ok (.if_icmp .lt 7, 3) := by decide +kernel
theorem dJ9_max_7cf53_5 : decode cJ9_max_7cf53 5 = .ok (.iload_n 0, 1) := by decide +kernel
theorem dJ9_max_7cf53_6 : decode cJ9_max_7cf53 6 = .ok (.goto 4, 3) := by decide +kernel
theorem dJ9_max_7cf53_9 : decode cJ9_max_7cf53 9 = .ok (.iload_n 1, 1) := by decide +kernel
theorem dJ9_max_7cf53_10 : decode cJ9_max_7cf53 10 = .ok (.ireturn, 1) := by decide +kernel
theorem dJ7_fill_53178_0 : decode cJ7_fill_53178 0 = .ok (.iconst 0, 1) := by decide +kernel
theorem dJ7_fill_53178_1 : decode cJ7_fill_53178 1 = .ok (.istore_n 2, 1) := by decide +kernel
theorem dJ7_fill_53178_2 : decode cJ7_fill_53178 2 = .ok (.aload_n 0, 1) := by decide +kernel
theorem dJ7_fill_53178_3 : decode cJ7_fill_53178 3 = .ok (.arraylength, 1) := by decide +kernel
theorem dJ7_fill_53178_4 : decode cJ7_fill_53178 4 = .ok (.istore_n 3, 1) := by decide +kernel
theorem dJ7_fill_53178_5 : decode cJ7_fill_53178 5 = .ok (.iload_n 2, 1) := by decide +kernel
theorem dJ7_fill_53178_6 : decode cJ7_fill_53178 6 = .ok (.iload_n 3, 1) := by decide +kernel
theorem dJ7_fill_53178_7 : decode cJ7_fill_53178 7 = .ok (.if_icmp .ge 13, 3) := by decide +kernel
theorem dJ7_fill_53178_10 : decode cJ7_fill_53178 10 = .ok (.aload_n 0, 1) := by decide +kernel
theorem dJ7_fill_53178_11 : decode cJ7_fill_53178 11 = .ok (.iload_n 2, 1) := by decide +kernel
theorem dJ7_fill_53178_12 : decode cJ7_fill_53178 12 = .ok (.iload_n 1, 1) := by decide +kernel
theorem dJ7_fill_53178_13 : decode cJ7_fill_53178 13 = .ok (.iastore, 1) := by decide +kernel
theorem dJ7_fill_53178_14 : decode cJ7_fill_53178 14 = .ok (.iinc 2 1, 3) := by decide +kernel
theorem dJ7_fill_53178_17 : decode cJ7_fill_53178 17 = .ok (.goto (-12), 3) := by decide +kernel
theorem dJ7_fill_53178_20 : decode cJ7_fill_53178 20 = .ok (.return_, 1) := by decide +kernel
set_option maxRecDepth 20000 in
theorem ggL_value_X5_value : GoodIn wsL_value wsX5_value := goodIn_ca (goodIn_r _ [6, 7, 8, 9, 10, 11, 5, 12, 13, 14, 15, 16, 17, 18, 19, 20, 21] (by decide +kernel) (by decide +kernel)) (goodIn_sub (fun _ h => List.mem_cons_of_mem _ (List.mem_append_right _ h)) (by decide +kernel))
set_option maxRecDepth 20000 in
theorem gL_value_X5_value : GoodIn wsL_value (wsV RL 7 RX5 yX5_value wsX5_value) := goodIn_app (goodIn_of _ (by decide +kernel)) ggL_value_X5_value
theorem dL_value_0 : decode cL_value 0 = .ok (.aload_n 2, 1) := by decide +kernel
theorem dL_value_1 : decode cL_value 1 = .ok (.iconst 0, 1) := by decide +kernel
theorem dL_value_2 : decode cL_value 2 = .ok (.aload_n 0, 1) := by decide +kernel
theorem dL_value_3 : decode cL_value 3 = .ok (.iload_n 1, 1) := by decide +kernel
theorem dL_value_4 : decode cL_value 4 = .ok (.invokevirtual 7, 3) := by decide +kernel
theorem dL_value_7 : decode cL_value 7 = .ok (.i2l, 1) := by decide +kernel
theorem dL_value_8 : decode cL_value 8 = .ok (.lastore, 1) := by decide +kernel
theorem dL_value_9 : decode cL_value 9 = .ok (.goto 6, 3) := by decide +kernel
theorem dL_value_12 : decode cL_value 12 = .ok (.astore_n 3, 1) := by decide +kernel
theorem dL_value_13 : decode cL_value 13 = .ok (.iconst 1, 1) := by decide +kernel
theorem dL_value_14 : decode cL_value 14 = .ok (.ireturn, 1) := by decide +kernel
theorem dL_value_15 : decode cL_value 15 = .ok (.iconst 0, 1) := by decide +kernel
theorem dL_value_16 : decode cL_value 16 = .ok (.ireturn, 1) := by decide +kernel
set_option maxRecDepth 20000 in
theorem ggL_law_X5_init : GoodIn wsL_law wsX5_init := goodIn_r _ [9, 10, 11, 12, 13, 14, 15, 16, 17, 18, 19, 20, 21, 22, 23, 24, 25, 26, 27, 28, 29, 30, 31, 32, 33, 34, 35, 36, 37, 38, 39, 40, 41, 42, 43, 44, 45, 46, 47, 48, 49, 50, 51, 52, 53, 54, 55, 56, 57, 58, 59, 60, 61, 62, 63, 64, 65, 66, 67, 68, 69, 70, 71, 72, 73, 74, 445, 446, 447, 448, 449, 479, 480, 481, 482, 483, 484, 485, 486, 487, 488, 489, 490, 491, 492, 493, 494, 495, 496, 497, 498, 499, 500, 501] (by decide +kernel) (by decide +kernel)
set_option maxRecDepth 20000 in
theorem gL_law_X5_init : GoodIn wsL_law (wsX5_init) := ggL_law_X5_init
set_option maxRecDepth 20000 in
theorem ggL_law_X6_init : GoodIn wsL_law wsX6_init := goodIn_r _ [77, 78, 11, 12, 33, 79, 80, 81, 82, 83, 84, 85, 86, 87, 88, 89, 90, 91, 92, 93, 94, 95, 96, 97, 98, 99, 100, 101, 102, 450, 451, 452, 453, 454, 455, 456, 457, 458, 459, 460, 461, 462, 463, 464, 465, 466, 467, 468, 469, 470, 471, 472, 473, 474, 475, 476, 477, 478] (by decide +kernel) (by decide +kernel)
set_option maxRecDepth 20000 in
theorem gL_law_X6_init : GoodIn wsL_law (wsX6_init) := ggL_law_X6_init
set_option maxRecDepth 20000 in
theorem ggL_law_X5_work : GoodIn wsL_law wsX5_work := goodIn_r _ [106, 107, 14, 445, 446, 447, 448, 449, 487, 488, 489, 490, 491, 492, 493, 494, 495, 496, 497, 498] (by decide +kernel) (by decide +kernel)
set_option maxRecDepth 20000 in
theorem gL_law_X5_work : GoodIn wsL_law (wsV RL 19 RX5 yX5_work wsX5_work) := goodIn_app (goodIn_of _ (by decide +kernel)) ggL_law_X5_work
set_option maxRecDepth 20000 in
theorem ggL_law_X6_work : GoodIn wsL_law wsX6_work := goodIn_r _ [111, 112, 113, 79, 80, 114, 115, 5, 116, 450, 451, 452, 453, 454, 455, 456, 457, 458, 459, 460, 461, 462, 463, 464, 465, 466, 467, 468, 469, 470, 471, 472, 473, 474, 475, 476, 477, 478] (by decide +kernel) (by decide +kernel)
set_option maxRecDepth 20000 in
theorem gL_law_X6_work : GoodIn wsL_law (wsV RL 23 RX6 yX6_work wsX6_work) := goodIn_app (goodIn_of _ (by decide +kernel)) ggL_law_X6_work
set_option maxRecDepth 20000 in
theorem ggL_law_X5_wants : GoodIn wsL_law wsX5_wants := goodIn_r _ [120, 121, 122, 123, 2, 124, 14, 125, 126, 127, 128, 107, 129, 130, 131, 28, 132, 133, 134, 135, 136, 137, 138, 139, 140, 141, 142, 143, 39, 144, 46, 45, 47, 487, 488, 489, 490, 491, 492, 493, 494, 495, 496, 497, 498, 445, 446, 447, 448, 449, 499, 500, 501] (by decide +kernel) (by decide +kernel)
set_option maxRecDepth 20000 in
theorem gL_law_X5_wants : GoodIn wsL_law (wsV RL 24 RX5 yX5_wants wsX5_wants) := goodIn_app (goodIn_of _ (by decide +kernel)) ggL_law_X5_wants
set_option maxRecDepth 20000 in
theorem ggL_law_X6_wants : GoodIn wsL_law wsX6_wants := goodIn_r _ [148, 112, 86, 91, 92, 149, 150, 151, 5, 152, 79, 153, 154, 155, 156, 113, 114, 115, 116, 450, 451, 452, 453, 454, 455, 456, 457, 458, 459, 460, 461, 462, 463, 464, 465, 466, 467, 468, 469, 470, 471, 472, 473, 474, 475, 476, 477, 478] (by decide +kernel) (by decide +kernel)
set_option maxRecDepth 20000 in
theorem gL_law_X6_wants : GoodIn wsL_law (wsV RL 28 RX6 yX6_wants wsX6_wants) := goodIn_app (goodIn_of _ (by decide +kernel)) ggL_law_X6_wants
set_option maxRecDepth 20000 in
theorem ggL_law_X5_sends : GoodIn wsL_law wsX5_sends := goodIn_r _ [160, 121, 122, 123, 2, 124, 14, 125, 126, 127, 128, 107, 129, 130, 131, 28, 132, 133, 134, 135, 136, 137, 141, 142, 143, 39, 144, 46, 45, 47, 487, 488, 489, 490, 491, 492, 493, 494, 495, 496, 497, 498, 445, 446, 447, 448, 449, 499, 500, 501] (by decide +kernel) (by decide +kernel)
set_option maxRecDepth 20000 in
theorem gL_law_X5_sends : GoodIn wsL_law (wsV RL 29 RX5 yX5_sends wsX5_sends) := goodIn_app (goodIn_of _ (by decide +kernel)) ggL_law_X5_sends
set_option maxRecDepth 20000 in
theorem ggL_law_X6_sends : GoodIn wsL_law wsX6_sends := goodIn_r _ [164, 112, 86, 93, 94, 149, 150, 151, 5, 152, 79, 153, 154, 155, 156, 113, 114, 115, 116, 450, 451, 452, 453, 454, 455, 456, 457, 458, 459, 460, 461, 462, 463, 464, 465, 466, 467, 468, 469, 470, 471, 472, 473, 474, 475, 476, 477, 478] (by decide +kernel) (by decide +kernel)
set_option maxRecDepth 20000 in
theorem gL_law_X6_sends : GoodIn wsL_law (wsV RL 33 RX6 yX6_sends wsX6_sends) := goodIn_app (goodIn_of _ (by decide +kernel)) ggL_law_X6_sends
set_option maxRecDepth 20000 in
theorem ggL_law_X5_loses : GoodIn wsL_law wsX5_loses := goodIn_r _ [168, 22, 445, 446, 447, 448, 449, 483, 484, 485] (by decide +kernel) (by decide +kernel)
set_option maxRecDepth 20000 in
theorem gL_law_X5_loses : GoodIn wsL_law (wsV RL 34 RX5 yX5_loses wsX5_loses) := goodIn_app (goodIn_of _ (by decide +kernel)) ggL_law_X5_loses
set_option maxRecDepth 20000 in
theorem ggL_law_X6_loses : GoodIn wsL_law wsX6_loses := goodIn_r _ [172, 112, 173, 114, 115, 5, 116, 450, 451, 452, 453, 454, 455, 456, 457, 458, 459, 460, 461, 462, 463, 464, 465, 466, 467, 468, 469, 470, 471, 472, 473, 474, 475, 476, 477, 478] (by decide +kernel) (by decide +kernel)
set_option maxRecDepth 20000 in
theorem gL_law_X6_loses : GoodIn wsL_law (wsV RL 37 RX6 yX6_loses wsX6_loses) := goodIn_app (goodIn_of _ (by decide +kernel)) ggL_law_X6_loses
set_option maxRecDepth 20000 in
theorem ggL_law_X5_turn : GoodIn wsL_law wsX5_turn := goodIn_r _ [177, 121, 122, 123, 2, 124, 14, 125, 126, 127, 128, 107, 178, 179, 180, 181, 182, 183, 184, 28, 185, 186, 68, 187, 188, 189, 190, 39, 191, 46, 192, 193, 194, 195, 18, 26, 196, 197, 198, 199, 200, 201, 202, 17, 203, 36, 34, 35, 204, 205, 206, 207, 40, 208, 209, 210, 211, 47, 45, 212, 213, 214, 215, 216, 217, 218, 219, 220, 221, 222, 223, 25, 224, 61, 225, 142, 143, 144, 226, 227, 228, 229, 22, 230, 231, 232, 233, 234, 235, 236, 21, 237, 238, 239, 240, 241, 242, 56, 55, 243, 244, 245, 246, 247, 248, 249, 250, 138, 139, 140, 251, 252, 253, 254, 255, 256, 257, 258, 259, 260, 261, 262, 263, 264, 265, 266, 267, 268, 269, 270, 271, 272, 273, 274, 275, 276, 277, 278, 279, 280, 281, 445, 446, 447, 448, 449, 487, 488, 489, 490, 491, 492, 493, 494, 495, 496, 497, 498, 499, 500, 501, 479, 480, 481, 482, 486, 483, 484, 485] (by decide +kernel) (by decide +kernel)
set_option maxRecDepth 20000 in
theorem gL_law_X5_turn : GoodIn wsL_law (wsV RL 38 RX5 yX5_turn wsX5_turn) := goodIn_app (goodIn_of _ (by decide +kernel)) ggL_law_X5_turn
set_option maxRecDepth 20000 in
theorem ggL_law_X6_turn : GoodIn wsL_law wsX6_turn := goodIn_r _ [285, 112, 286, 287, 288, 5, 289, 81, 86, 82, 83, 91, 92, 84, 80, 153, 154, 155, 156, 113, 114, 115, 116, 290, 291, 292, 293, 95, 89, 90, 294, 295, 296, 297, 298, 299, 300, 301, 302, 97, 98, 87, 303, 304, 305, 306, 307, 99, 96, 100, 101, 308, 309, 310, 311, 312, 313, 314, 315, 316, 102, 93, 94, 173, 79, 450, 451, 452, 453, 454, 455, 456, 457, 458, 459, 460, 461, 462, 463, 464, 465, 466, 467, 468, 469, 470, 471, 472, 473, 474, 475, 476, 477, 478] (by decide +kernel) (by decide +kernel)
set_option maxRecDepth 20000 in
theorem gL_law_X6_turn : GoodIn wsL_law (wsV RL 41 RX6 yX6_turn wsX6_turn) := goodIn_app (goodIn_of _ (by decide +kernel)) ggL_law_X6_turn
set_option maxRecDepth 20000 in
theorem ggL_law_X5_run : GoodIn wsL_law wsX5_run := goodIn_r _ [320, 321, 107, 14, 178, 179, 180, 2, 181, 182, 183, 184, 28, 185, 186, 68, 187, 188, 189, 190, 39, 191, 46, 192, 193, 194, 195, 18, 26, 196, 197, 198, 199, 200, 201, 202, 17, 203, 36, 34, 35, 204, 205, 206, 207, 40, 208, 209, 210, 211, 47, 45, 212, 213, 214, 215, 216, 217, 218, 219, 220, 221, 222, 223, 25, 224, 61, 225, 142, 143, 144, 226, 227, 228, 229, 22, 230, 231, 232, 233, 234, 235, 236, 21, 237, 238, 239, 240, 241, 242, 56, 55, 243, 244, 245, 246, 247, 248, 249, 250, 138, 139, 140, 251, 252, 253, 254, 255, 256, 257, 258, 259, 260, 261, 262, 263, 264, 265, 266, 267, 268, 269, 270, 271, 272, 273, 274, 275, 276, 277, 278, 279, 280, 281, 322, 323, 324, 445, 446, 447, 448, 449, 487, 488, 489, 490, 491, 492, 493, 494, 495, 496, 497, 498, 499, 500, 501, 479, 480, 481, 482, 486, 483, 484, 485] (by decide +kernel) (by decide +kernel)
set_option maxRecDepth 20000 in
theorem gL_law_X5_run : GoodIn wsL_law (wsV RL 42 RX5 yX5_run wsX5_run) := goodIn_app (goodIn_of _ (by decide +kernel)) ggL_law_X5_run
set_option maxRecDepth 20000 in
theorem ggL_law_X6_run : GoodIn wsL_law wsX6_run := goodIn_r _ [328, 112, 113, 286, 287, 288, 5, 289, 81, 86, 82, 83, 91, 92, 84, 80, 153, 154, 155, 156, 114, 115, 116, 290, 291, 292, 293, 95, 89, 90, 294, 295, 296, 297, 298, 299, 300, 301, 302, 97, 98, 87, 303, 304, 305, 306, 307, 99, 96, 100, 101, 308, 309, 310, 311, 312, 313, 314, 315, 316, 102, 93, 94, 173, 79, 450, 451, 452, 453, 454, 455, 456, 457, 458, 459, 460, 461, 462, 463, 464, 465, 466, 467, 468, 469, 470, 471, 472, 473, 474, 475, 476, 477, 478] (by decide +kernel) (by decide +kernel)
set_option maxRecDepth 20000 in
theorem gL_law_X6_run : GoodIn wsL_law (wsV RL 46 RX6 yX6_run wsX6_run) := goodIn_app (goodIn_of _ (by decide +kernel)) ggL_law_X6_run
set_option maxRecDepth 20000 in
theorem ggL_law_X5_ring : GoodIn wsL_law wsX5_ring := goodIn_r _ [332, 107, 14, 333, 334, 335, 2, 336, 18, 337, 338, 339, 340, 341, 342, 343, 17, 344, 40, 36, 268, 213, 214, 39, 215, 47, 45, 216, 189, 190, 191, 46, 196, 197, 198, 199, 200, 201, 202, 203, 34, 35, 204, 205, 206, 207, 208, 209, 210, 211, 212, 445, 446, 447, 448, 449, 479, 480, 481, 482, 499, 500, 501, 487, 488, 489, 490, 491, 492, 493, 494, 495, 496, 497, 498] (by decide +kernel) (by decide +kernel)
set_option maxRecDepth 20000 in
theorem gL_law_X5_ring : GoodIn wsL_law (wsV RL 47 RX5 yX5_ring wsX5_ring) := goodIn_app (goodIn_of _ (by decide +kernel)) ggL_law_X5_ring
set_option maxRecDepth 20000 in
theorem ggL_law_X6_ring : GoodIn wsL_law wsX6_ring := goodIn_r _ [348, 112, 113, 349, 350, 351, 5, 352, 89, 95, 303, 304, 305, 306, 307, 99, 96, 100, 101, 81, 308, 309, 310, 311, 450, 451, 452, 453, 454, 455, 456, 457, 458, 459, 460, 461, 462, 463, 464, 465, 466, 467, 468, 469, 470, 471, 472, 473, 474, 475, 476, 477, 478] (by decide +kernel) (by decide +kernel)
set_option maxRecDepth 20000 in
theorem gL_law_X6_ring : GoodIn wsL_law (wsV RL 50 RX6 yX6_ring wsX6_ring) := goodIn_app (goodIn_of _ (by decide +kernel)) ggL_law_X6_ring
set_option maxRecDepth 20000 in
theorem ggL_law_X5_interrupt : GoodIn wsL_law wsX5_interrupt := goodIn_r _ [356, 121, 122, 123, 2, 124, 14, 125, 126, 127, 128, 107, 322, 323, 324, 196, 197, 198, 199, 18, 200, 201, 202, 17, 203, 36, 34, 35, 204, 205, 206, 207, 40, 208, 209, 210, 39, 211, 46, 47, 45, 212, 213, 214, 215, 216, 189, 190, 191, 487, 488, 489, 490, 491, 492, 493, 494, 495, 496, 497, 498, 445, 446, 447, 448, 449, 479, 480, 481, 482, 499, 500, 501] (by decide +kernel) (by decide +kernel)
set_option maxRecDepth 20000 in
theorem gL_law_X5_interrupt : GoodIn wsL_law (wsV RL 51 RX5 yX5_interrupt wsX5_interrupt) := goodIn_app (goodIn_of _ (by decide +kernel)) ggL_law_X5_interrupt
set_option maxRecDepth 20000 in
theorem ggL_law_X6_interrupt : GoodIn wsL_law wsX6_interrupt := goodIn_r _ [360, 112, 81, 84, 153, 154, 155, 5, 156, 113, 114, 115, 116, 303, 304, 305, 306, 307, 99, 96, 100, 101, 308, 309, 310, 311, 95, 89, 450, 451, 452, 453, 454, 455, 456, 457, 458, 459, 460, 461, 462, 463, 464, 465, 466, 467, 468, 469, 470, 471, 472, 473, 474, 475, 476, 477, 478] (by decide +kernel) (by decide +kernel)
set_option maxRecDepth 20000 in
theorem gL_law_X6_interrupt : GoodIn wsL_law (wsV RL 54 RX6 yX6_interrupt wsX6_interrupt) := goodIn_app (goodIn_of _ (by decide +kernel)) ggL_law_X6_interrupt
set_option maxRecDepth 20000 in
theorem ggL_law_X5_again : GoodIn wsL_law wsX5_again := goodIn_r _ [364, 121, 122, 123, 2, 124, 14, 125, 126, 127, 128, 107, 365, 366, 367, 28, 368, 71, 187, 186, 70, 72, 369, 487, 488, 489, 490, 491, 492, 493, 494, 495, 496, 497, 498, 445, 446, 447, 448, 449] (by decide +kernel) (by decide +kernel)
set_option maxRecDepth 20000 in
theorem gL_law_X5_again : GoodIn wsL_law (wsV RL 55 RX5 yX5_again wsX5_again) := goodIn_app (goodIn_of _ (by decide +kernel)) ggL_law_X5_again
set_option maxRecDepth 20000 in
theorem ggL_law_X6_again : GoodIn wsL_law wsX6_again := goodIn_r _ [373, 112, 81, 82, 83, 84, 80, 88, 153, 154, 155, 5, 156, 113, 114, 115, 116, 450, 451, 452, 453, 454, 455, 456, 457, 458, 459, 460, 461, 462, 463, 464, 465, 466, 467, 468, 469, 470, 471, 472, 473, 474, 475, 476, 477, 478] (by decide +kernel) (by decide +kernel)
set_option maxRecDepth 20000 in
theorem gL_law_X6_again : GoodIn wsL_law (wsV RL 58 RX6 yX6_again wsX6_again) := goodIn_app (goodIn_of _ (by decide +kernel)) ggL_law_X6_again
set_option maxRecDepth 20000 in
theorem ggL_law_X5_close : GoodIn wsL_law wsX5_close := goodIn_r _ [377, 107, 14, 196, 197, 198, 2, 199, 18, 200, 201, 202, 17, 203, 36, 34, 35, 204, 205, 206, 207, 40, 208, 209, 210, 39, 211, 46, 47, 45, 212, 213, 214, 215, 216, 189, 190, 191, 445, 446, 447, 448, 449, 487, 488, 489, 490, 491, 492, 493, 494, 495, 496, 497, 498, 479, 480, 481, 482, 499, 500, 501] (by decide +kernel) (by decide +kernel)
set_option maxRecDepth 20000 in
theorem gL_law_X5_close : GoodIn wsL_law (wsV RL 59 RX5 yX5_close wsX5_close) := goodIn_app (goodIn_of _ (by decide +kernel)) ggL_law_X5_close
set_option maxRecDepth 20000 in
theorem ggL_law_X6_close : GoodIn wsL_law wsX6_close := goodIn_r _ [381, 112, 113, 81, 303, 304, 305, 5, 306, 307, 99, 96, 100, 101, 308, 309, 310, 311, 95, 89, 450, 451, 452, 453, 454, 455, 456, 457, 458, 459, 460, 461, 462, 463, 464, 465, 466, 467, 468, 469, 470, 471, 472, 473, 474, 475, 476, 477, 478] (by decide +kernel) (by decide +kernel)
set_option maxRecDepth 20000 in
theorem gL_law_X6_close : GoodIn wsL_law (wsV RL 62 RX6 yX6_close wsX6_close) := goodIn_app (goodIn_of _ (by decide +kernel)) ggL_law_X6_close
set_option maxRecDepth 20000 in
theorem ggL_law_X5_state : GoodIn wsL_law wsX5_state := goodIn_r _ [385, 18, 121, 122, 123, 2, 124, 14, 125, 126, 127, 128, 107, 386, 387, 388, 17, 389, 36, 487, 488, 489, 490, 491, 492, 493, 494, 495, 496, 497, 498, 445, 446, 447, 448, 449, 479, 480, 481, 482] (by decide +kernel) (by decide +kernel)
set_option maxRecDepth 20000 in
theorem gL_law_X5_state : GoodIn wsL_law (wsV RL 63 RX5 yX5_state wsX5_state) := goodIn_app (goodIn_of _ (by decide +kernel)) ggL_law_X5_state
set_option maxRecDepth 20000 in
theorem ggL_law_X6_state : GoodIn wsL_law wsX6_state := goodIn_r _ [393, 112, 81, 82, 83, 95, 87, 153, 154, 155, 5, 156, 113, 114, 115, 116, 450, 451, 452, 453, 454, 455, 456, 457, 458, 459, 460, 461, 462, 463, 464, 465, 466, 467, 468, 469, 470, 471, 472, 473, 474, 475, 476, 477, 478] (by decide +kernel) (by decide +kernel)
set_option maxRecDepth 20000 in
theorem gL_law_X6_state : GoodIn wsL_law (wsV RL 66 RX6 yX6_state wsX6_state) := goodIn_app (goodIn_of _ (by decide +kernel)) ggL_law_X6_state
set_option maxRecDepth 20000 in
theorem ggL_law_X5_has : GoodIn wsL_law wsX5_has := goodIn_r _ [397, 18, 138, 139, 2, 140, 445, 446, 447, 448, 449, 479, 480, 481, 482] (by decide +kernel) (by decide +kernel)
set_option maxRecDepth 20000 in
theorem gL_law_X5_has : GoodIn wsL_law (wsV RL 67 RX5 yX5_has wsX5_has) := goodIn_app (goodIn_of _ (by decide +kernel)) ggL_law_X5_has
set_option maxRecDepth 20000 in
theorem ggL_law_X6_has : GoodIn wsL_law wsX6_has := goodIn_r _ [401, 112, 95, 114, 115, 5, 116, 450, 451, 452, 453, 454, 455, 456, 457, 458, 459, 460, 461, 462, 463, 464, 465, 466, 467, 468, 469, 470, 471, 472, 473, 474, 475, 476, 477, 478] (by decide +kernel) (by decide +kernel)
set_option maxRecDepth 20000 in
theorem gL_law_X6_has : GoodIn wsL_law (wsV RL 70 RX6 yX6_has wsX6_has) := goodIn_app (goodIn_of _ (by decide +kernel)) ggL_law_X6_has
set_option maxRecDepth 20000 in
theorem ggL_law_X5_line : GoodIn wsL_law wsX5_line := goodIn_r _ [405, 18, 231, 232, 233, 39, 234, 47, 45, 216, 189, 190, 191, 46, 445, 446, 447, 448, 449, 479, 480, 481, 482, 499, 500, 501] (by decide +kernel) (by decide +kernel)
set_option maxRecDepth 20000 in
theorem gL_law_X5_line : GoodIn wsL_law (wsV RL 71 RX5 yX5_line wsX5_line) := goodIn_app (goodIn_of _ (by decide +kernel)) ggL_law_X5_line
set_option maxRecDepth 20000 in
theorem ggL_law_X6_line : GoodIn wsL_law wsX6_line := goodIn_r _ [409, 112, 113, 89, 114, 115, 5, 116, 295, 296, 297, 298, 90, 450, 451, 452, 453, 454, 455, 456, 457, 458, 459, 460, 461, 462, 463, 464, 465, 466, 467, 468, 469, 470, 471, 472, 473, 474, 475, 476, 477, 478] (by decide +kernel) (by decide +kernel)
set_option maxRecDepth 20000 in
theorem gL_law_X6_line : GoodIn wsL_law (wsV RL 74 RX6 yX6_line wsX6_line) := goodIn_app (goodIn_of _ (by decide +kernel)) ggL_law_X6_line
set_option maxRecDepth 20000 in
theorem ggL_law_L_value : GoodIn wsL_law wsL_value := goodIn_ca (goodIn_r _ [413, 414, 415, 416, 417, 2, 418, 419, 420, 18, 138, 139, 140, 445, 446, 447, 448, 449, 479, 480, 481, 482] (by decide +kernel) (by decide +kernel)) (goodIn_sub (fun _ h => List.mem_append_right _ h) (by decide +kernel))
set_option maxRecDepth 20000 in
theorem gL_law_L_value : GoodIn wsL_law (va_wsS RL 75 yL_value wsL_value) := goodIn_app (goodIn_of _ (by decide +kernel)) ggL_law_L_value
set_option maxRecDepth 20000 in
theorem ggL_law_X6_value : GoodIn wsL_law wsX6_value := goodIn_r _ [424, 112, 96, 114, 115, 5, 116, 450, 451, 452, 453, 454, 455, 456, 457, 458, 459, 460, 461, 462, 463, 464, 465, 466, 467, 468, 469, 470, 471, 472, 473, 474, 475, 476, 477, 478] (by decide +kernel) (by decide +kernel)
set_option maxRecDepth 20000 in
theorem gL_law_X6_value : GoodIn wsL_law (wsV RL 80 RX6 yX6_value wsX6_value) := goodIn_app (goodIn_of _ (by decide +kernel)) ggL_law_X6_value
set_option maxRecDepth 20000 in
theorem ggL_law_X5_log : GoodIn wsL_law wsX5_log := goodIn_r _ [428, 26, 231, 232, 233, 39, 234, 47, 45, 216, 189, 190, 191, 46, 445, 446, 447, 448, 449, 486, 499, 500, 501] (by decide +kernel) (by decide +kernel)
set_option maxRecDepth 20000 in
theorem gL_law_X5_log : GoodIn wsL_law (wsV RL 81 RX5 yX5_log wsX5_log) := goodIn_app (goodIn_of _ (by decide +kernel)) ggL_law_X5_log
set_option maxRecDepth 20000 in
theorem ggL_law_X6_log : GoodIn wsL_law wsX6_log := goodIn_r _ [432, 112, 316, 102, 114, 115, 5, 116, 450, 451, 452, 453, 454, 455, 456, 457, 458, 459, 460, 461, 462, 463, 464, 465, 466, 467, 468, 469, 470, 471, 472, 473, 474, 475, 476, 477, 478] (by decide +kernel) (by decide +kernel)
set_option maxRecDepth 20000 in
theorem gL_law_X6_log : GoodIn wsL_law (wsV RL 84 RX6 yX6_log wsX6_log) := goodIn_app (goodIn_of _ (by decide +kernel)) ggL_law_X6_log
set_option maxRecDepth 20000 in
theorem ggL_law_X5_mail : GoodIn wsL_law wsX5_mail := goodIn_r _ [436, 22, 121, 122, 123, 2, 124, 14, 125, 126, 127, 128, 107, 134, 135, 136, 137, 235, 236, 21, 237, 437, 438, 439, 440, 55, 243, 244, 245, 246, 56, 445, 446, 447, 448, 449, 483, 484, 485] (by decide +kernel) (by decide +kernel)
set_option maxRecDepth 20000 in
theorem gL_law_X5_mail : GoodIn wsL_law (wsV RL 85 RX5 yX5_mail wsX5_mail) := goodIn_app (goodIn_of _ (by decide +kernel)) ggL_law_X5_mail
set_option maxRecDepth 20000 in
theorem ggL_law_X6_mail : GoodIn wsL_law wsX6_mail := goodIn_r _ [444, 112, 97, 153, 154, 155, 5, 156, 113, 114, 115, 116, 450, 451, 452, 453, 454, 455, 456, 457, 458, 459, 460, 461, 462, 463, 464, 465, 466, 467, 468, 469, 470, 471, 472, 473, 474, 475, 476, 477, 478] (by decide +kernel) (by decide +kernel)
set_option maxRecDepth 20000 in
theorem gL_law_X6_mail : GoodIn wsL_law (wsV RL 88 RX6 yX6_mail wsX6_mail) := goodIn_app (goodIn_of _ (by decide +kernel)) ggL_law_X6_mail
theorem dL_law_0 : decode cL_law 0 = .ok (.new 8, 3) := by decide +kernel
theorem dL_law_3 : decode cL_law 3 = .ok (.dup, 1) := by decide +kernel
theorem dL_law_4 : decode cL_law 4 = .ok (.invokespecial 15, 3) := by decide +kernel
theorem dL_law_7 : decode cL_law 7 = .ok (.astore_n 1, 1) := by decide +kernel
theorem dL_law_8 : decode cL_law 8 = .ok (.new 16, 3) := by decide +kernel
theorem dL_law_11 : decode cL_law 11 = .ok (.dup, 1) := by decide +kernel
theorem dL_law_12 : decode cL_law 12 = .ok (.invokespecial 18, 3) := by decide +kernel
theorem dL_law_15 : decode cL_law 15 = .ok (.astore_n 2, 1) := by decide +kernel
theorem dL_law_16 : decode cL_law 16 = .ok (.iconst 1, 1) := by decide +kernel
theorem dL_law_17 : decode cL_law 17 = .ok (.newarray .long, 2) := by decide +kernel
theorem dL_law_19 : decode cL_law 19 = .ok (.astore_n 3, 1) := by decide +kernel
theorem dL_law_20 : decode cL_law 20 = .ok (.iconst 0, 1) := by decide +kernel
theorem dL_law_21 : decode cL_law 21 = .ok (.istore 4, 2) := by decide +kernel
theorem dL_law_23 : decode cL_law 23 = .ok (.iload 4, 2) := by decide +kernel
theorem dL_law_25 : decode cL_law 25 = .ok (.aload_n 0, 1) := by decide +kernel
theorem dL_law_26 : decode cL_law 26 = .ok (.arraylength, 1) := by decide +kernel
theorem dL_law_27 : decode cL_law 27 = .ok (.iconst 5, 1) := by decide +kernel
theorem dL_law_28 : decode cL_law 28 = .ok (.isub, 1) := by decide +kernel
theorem dL_law_29 : decode cL_law 29 = .ok (.if_icmp .gt 584, 3) := by decide +kernel
theorem dL_law_32 : decode cL_law 32 = .ok (.aload_n 0, 1) := by decide +kernel
theorem dL_law_33 : decode cL_law 33 = .ok (.iload 4, 2) := by decide +kernel
theorem dL_law_35 : decode cL_law 35 = .ok (.iaload, 1) := by decide +kernel
theorem dL_law_36 : decode cL_law 36 = .ok (.bipush 15, 2) := by decide +kernel
theorem dL_law_38 : decode cL_law 38 = .ok (.iand, 1) := by decide +kernel
theorem dL_law_39 : decode cL_law 39 = .ok (.tableswitch 568 0 15 #[77, 114, 191, 240, 265, 290, 303, 316, 341, 366, 379, 416, 441, 478, 506, 531], 77) := by decide +kernel
theorem dL_law_116 : decode cL_law 116 = .ok (.aload_n 1, 1) := by decide +kernel
theorem dL_law_117 : decode cL_law 117 = .ok (.aload_n 0, 1) := by decide +kernel
theorem dL_law_118 : decode cL_law 118 = .ok (.iload 4, 2) := by decide +kernel
theorem dL_law_120 : decode cL_law 120 = .ok (.iconst 1, 1) := by decide +kernel
theorem dL_law_121 : decode cL_law 121 = .ok (.iadd, 1) := by decide +kernel
theorem dL_law_122 : decode cL_law 122 = .ok (.iaload, 1) := by decide +kernel
theorem dL_law_123 : decode cL_law 123 = .ok (.aload_n 0, 1) := by decide +kernel
theorem dL_law_124 : decode cL_law 124 = .ok (.iload 4, 2) := by decide +kernel
theorem dL_law_126 : decode cL_law 126 = .ok (.iconst 2, 1) := by decide +kernel
theorem dL_law_127 : decode cL_law 127 = .ok (.iadd, 1) := by decide +kernel
theorem dL_law_128 : decode cL_law 128 = .ok (.iaload, 1) := by decide +kernel
theorem dL_law_129 : decode cL_law 129 = .ok (.invokevirtual 19, 3) := by decide +kernel
theorem dL_law_132 : decode cL_law 132 = .ok (.aload_n 2, 1) := by decide +kernel
theorem dL_law_133 : decode cL_law 133 = .ok (.aload_n 0, 1) := by decide +kernel
theorem dL_law_134 : decode cL_law 134 = .ok (.iload 4, 2) := by decide +kernel
theorem dL_law_136 : decode cL_law 136 = .ok (.iconst 1, 1) := by decide +kernel
theorem dL_law_137 : decode cL_law 137 = .ok (.iadd, 1) := by decide +kernel
theorem dL_law_138 : decode cL_law 138 = .ok (.iaload, 1) := by decide +kernel
theorem dL_law_139 : decode cL_law 139 = .ok (.aload_n 0, 1) := by decide +kernel
theorem dL_law_140 : decode cL_law 140 = .ok (.iload 4, 2) := by decide +kernel
theorem dL_law_142 : decode cL_law 142 = .ok (.iconst 2, 1) := by decide +kernel
theorem dL_law_143 : decode cL_law 143 = .ok (.iadd, 1) := by decide +kernel
theorem dL_law_144 : decode cL_law 144 = .ok (.iaload, 1) := by decide +kernel
theorem dL_law_145 : decode cL_law 145 = .ok (.invokevirtual 23, 3) := by decide +kernel
theorem dL_law_148 : decode cL_law 148 = .ok (.if_icmp .eq 459, 3) := by decide +kernel
theorem dL_law_151 : decode cL_law 151 = .ok (.iconst 0, 1) := by decide +kernel
theorem dL_law_152 : decode cL_law 152 = .ok (.ireturn, 1) := by decide +kernel
theorem dL_law_153 : decode cL_law 153 = .ok (.aload_n 1, 1) := by decide +kernel
theorem dL_law_154 : decode cL_law 154 = .ok (.aload_n 0, 1) := by decide +kernel
theorem dL_law_155 : decode cL_law 155 = .ok (.iload 4, 2) := by decide +kernel
theorem dL_law_157 : decode cL_law 157 = .ok (.iconst 1, 1) := by decide +kernel
theorem dL_law_158 : decode cL_law 158 = .ok (.iadd, 1) := by decide +kernel
theorem dL_law_159 : decode cL_law 159 = .ok (.iaload, 1) := by decide +kernel
theorem dL_law_160 : decode cL_law 160 = .ok (.aload_n 0, 1) := by decide +kernel
theorem dL_law_161 : decode cL_law 161 = .ok (.iload 4, 2) := by decide +kernel
theorem dL_law_163 : decode cL_law 163 = .ok (.iconst 2, 1) := by decide +kernel
theorem dL_law_164 : decode cL_law 164 = .ok (.iadd, 1) := by decide +kernel
theorem dL_law_165 : decode cL_law 165 = .ok (.iaload, 1) := by decide +kernel
theorem dL_law_166 : decode cL_law 166 = .ok (.aload_n 0, 1) := by decide +kernel
theorem dL_law_167 : decode cL_law 167 = .ok (.iload 4, 2) := by decide +kernel
theorem dL_law_169 : decode cL_law 169 = .ok (.iconst 3, 1) := by decide +kernel
theorem dL_law_170 : decode cL_law 170 = .ok (.iadd, 1) := by decide +kernel
theorem dL_law_171 : decode cL_law 171 = .ok (.iaload, 1) := by decide +kernel
theorem dL_law_172 : decode cL_law 172 = .ok (.ifCond .eq 7, 3) := by decide +kernel
theorem dL_law_175 : decode cL_law 175 = .ok (.iconst 1, 1) := by decide +kernel
theorem dL_law_176 : decode cL_law 176 = .ok (.goto 4, 3) := by decide +kernel
theorem dL_law_179 : decode cL_law 179 = .ok (.iconst 0, 1) := by decide +kernel
theorem dL_law_180 : decode cL_law 180 = .ok (.aload_n 0, 1) := by decide +kernel
theorem dL_law_181 : decode cL_law 181 = .ok (.iload 4, 2) := by decide +kernel
theorem dL_law_183 : decode cL_law 183 = .ok (.iconst 4, 1) := by decide +kernel
theorem dL_law_184 : decode cL_law 184 = .ok (.iadd, 1) := by decide +kernel
theorem dL_law_185 : decode cL_law 185 = .ok (.iaload, 1) := by decide +kernel
theorem dL_law_186 : decode cL_law 186 = .ok (.invokevirtual 24, 3) := by decide +kernel
theorem dL_law_189 : decode cL_law 189 = .ok (.pop, 1) := by decide +kernel
theorem dL_law_190 : decode cL_law 190 = .ok (.aload_n 2, 1) := by decide +kernel
theorem dL_law_191 : decode cL_law 191 = .ok (.aload_n 0, 1) := by decide +kernel
theorem dL_law_192 : decode cL_law 192 = .ok (.iload 4, 2) := by decide +kernel
theorem dL_law_194 : decode cL_law 194 = .ok (.iconst 1, 1) := by decide +kernel
theorem dL_law_195 : decode cL_law 195 = .ok (.iadd, 1) := by decide +kernel
theorem dL_law_196 : decode cL_law 196 = .ok (.iaload, 1) := by decide +kernel
theorem dL_law_197 : decode cL_law 197 = .ok (.aload_n 0, 1) := by decide +kernel
theorem dL_law_198 : decode cL_law 198 = .ok (.iload 4, 2) := by decide +kernel
theorem dL_law_200 : decode cL_law 200 = .ok (.iconst 2, 1) := by decide +kernel
theorem dL_law_201 : decode cL_law 201 = .ok (.iadd, 1) := by decide +kernel
theorem dL_law_202 : decode cL_law 202 = .ok (.iaload, 1) := by decide +kernel
theorem dL_law_203 : decode cL_law 203 = .ok (.aload_n 0, 1) := by decide +kernel
theorem dL_law_204 : decode cL_law 204 = .ok (.iload 4, 2) := by decide +kernel
theorem dL_law_206 : decode cL_law 206 = .ok (.iconst 3, 1) := by decide +kernel
theorem dL_law_207 : decode cL_law 207 = .ok (.iadd, 1) := by decide +kernel
theorem dL_law_208 : decode cL_law 208 = .ok (.iaload, 1) := by decide +kernel
theorem dL_law_209 : decode cL_law 209 = .ok (.ifCond .eq 7, 3) := by decide +kernel
theorem dL_law_212 : decode cL_law 212 = .ok (.iconst 1, 1) := by decide +kernel
theorem dL_law_213 : decode cL_law 213 = .ok (.goto 4, 3) := by decide +kernel
theorem dL_law_216 : decode cL_law 216 = .ok (.iconst 0, 1) := by decide +kernel
theorem dL_law_217 : decode cL_law 217 = .ok (.aload_n 0, 1) := by decide +kernel
theorem dL_law_218 : decode cL_law 218 = .ok (.iload 4, 2) := by decide +kernel
theorem dL_law_220 : decode cL_law 220 = .ok (.iconst 4, 1) := by decide +kernel
theorem dL_law_221 : decode cL_law 221 = .ok (.iadd, 1) := by decide +kernel
theorem dL_law_222 : decode cL_law 222 = .ok (.iaload, 1) := by decide +kernel
theorem dL_law_223 : decode cL_law 223 = .ok (.invokevirtual 28, 3) := by decide +kernel
theorem dL_law_226 : decode cL_law 226 = .ok (.pop, 1) := by decide +kernel
theorem dL_law_227 : decode cL_law 227 = .ok (.goto 380, 3) := by decide +kernel
theorem dL_law_230 : decode cL_law 230 = .ok (.aload_n 1, 1) := by decide +kernel
theorem dL_law_231 : decode cL_law 231 = .ok (.aload_n 0, 1) := by decide +kernel
theorem dL_law_232 : decode cL_law 232 = .ok (.iload 4, 2) := by decide +kernel
theorem dL_law_234 : decode cL_law 234 = .ok (.iconst 1, 1) := by decide +kernel
theorem dL_law_235 : decode cL_law 235 = .ok (.iadd, 1) := by decide +kernel
theorem dL_law_236 : decode cL_law 236 = .ok (.iaload, 1) := by decide +kernel
theorem dL_law_237 : decode cL_law 237 = .ok (.aload_n 0, 1) := by decide +kernel
theorem dL_law_238 : decode cL_law 238 = .ok (.iload 4, 2) := by decide +kernel
theorem dL_law_240 : decode cL_law 240 = .ok (.iconst 2, 1) := by decide +kernel
theorem dL_law_241 : decode cL_law 241 = .ok (.iadd, 1) := by decide +kernel
theorem dL_law_242 : decode cL_law 242 = .ok (.iaload, 1) := by decide +kernel
theorem dL_law_243 : decode cL_law 243 = .ok (.aload_n 0, 1) := by decide +kernel
theorem dL_law_244 : decode cL_law 244 = .ok (.iload 4, 2) := by decide +kernel
theorem dL_law_246 : decode cL_law 246 = .ok (.iconst 3, 1) := by decide +kernel
theorem dL_law_247 : decode cL_law 247 = .ok (.iadd, 1) := by decide +kernel
theorem dL_law_248 : decode cL_law 248 = .ok (.iaload, 1) := by decide +kernel
theorem dL_law_249 : decode cL_law 249 = .ok (.invokevirtual 29, 3) := by decide +kernel
theorem dL_law_252 : decode cL_law 252 = .ok (.pop, 1) := by decide +kernel
theorem dL_law_253 : decode cL_law 253 = .ok (.aload_n 2, 1) := by decide +kernel
theorem dL_law_254 : decode cL_law 254 = .ok (.aload_n 0, 1) := by decide +kernel
theorem dL_law_255 : decode cL_law 255 = .ok (.iload 4, 2) := by decide +kernel
theorem dL_law_257 : decode cL_law 257 = .ok (.iconst 1, 1) := by decide +kernel
theorem dL_law_258 : decode cL_law 258 = .ok (.iadd, 1) := by decide +kernel
theorem dL_law_259 : decode cL_law 259 = .ok (.iaload, 1) := by decide +kernel
theorem dL_law_260 : decode cL_law 260 = .ok (.aload_n 0, 1) := by decide +kernel
theorem dL_law_261 : decode cL_law 261 = .ok (.iload 4, 2) := by decide +kernel
theorem dL_law_263 : decode cL_law 263 = .ok (.iconst 2, 1) := by decide +kernel
theorem dL_law_264 : decode cL_law 264 = .ok (.iadd, 1) := by decide +kernel
theorem dL_law_265 : decode cL_law 265 = .ok (.iaload, 1) := by decide +kernel
theorem dL_law_266 : decode cL_law 266 = .ok (.aload_n 0, 1) := by decide +kernel
theorem dL_law_267 : decode cL_law 267 = .ok (.iload 4, 2) := by decide +kernel
theorem dL_law_269 : decode cL_law 269 = .ok (.iconst 3, 1) := by decide +kernel
theorem dL_law_270 : decode cL_law 270 = .ok (.iadd, 1) := by decide +kernel
theorem dL_law_271 : decode cL_law 271 = .ok (.iaload, 1) := by decide +kernel
theorem dL_law_272 : decode cL_law 272 = .ok (.invokevirtual 33, 3) := by decide +kernel
theorem dL_law_275 : decode cL_law 275 = .ok (.pop, 1) := by decide +kernel
theorem dL_law_276 : decode cL_law 276 = .ok (.goto 331, 3) := by decide +kernel
theorem dL_law_279 : decode cL_law 279 = .ok (.aload_n 1, 1) := by decide +kernel
theorem dL_law_280 : decode cL_law 280 = .ok (.aload_n 0, 1) := by decide +kernel
theorem dL_law_281 : decode cL_law 281 = .ok (.iload 4, 2) := by decide +kernel
theorem dL_law_283 : decode cL_law 283 = .ok (.iconst 1, 1) := by decide +kernel
theorem dL_law_284 : decode cL_law 284 = .ok (.iadd, 1) := by decide +kernel
theorem dL_law_285 : decode cL_law 285 = .ok (.iaload, 1) := by decide +kernel
theorem dL_law_286 : decode cL_law 286 = .ok (.invokevirtual 34, 3) := by decide +kernel
theorem dL_law_289 : decode cL_law 289 = .ok (.pop, 1) := by decide +kernel
theorem dL_law_290 : decode cL_law 290 = .ok (.aload_n 2, 1) := by decide +kernel
theorem dL_law_291 : decode cL_law 291 = .ok (.aload_n 0, 1) := by decide +kernel
theorem dL_law_292 : decode cL_law 292 = .ok (.iload 4, 2) := by decide +kernel
theorem dL_law_294 : decode cL_law 294 = .ok (.iconst 1, 1) := by decide +kernel
theorem dL_law_295 : decode cL_law 295 = .ok (.iadd, 1) := by decide +kernel
theorem dL_law_296 : decode cL_law 296 = .ok (.iaload, 1) := by decide +kernel
theorem dL_law_297 : decode cL_law 297 = .ok (.invokevirtual 37, 3) := by decide +kernel
theorem dL_law_300 : decode cL_law 300 = .ok (.pop, 1) := by decide +kernel
theorem dL_law_301 : decode cL_law 301 = .ok (.goto 306, 3) := by decide +kernel
theorem dL_law_304 : decode cL_law 304 = .ok (.aload_n 1, 1) := by decide +kernel
theorem dL_law_305 : decode cL_law 305 = .ok (.aload_n 0, 1) := by decide +kernel
theorem dL_law_306 : decode cL_law 306 = .ok (.iload 4, 2) := by decide +kernel
theorem dL_law_308 : decode cL_law 308 = .ok (.iconst 1, 1) := by decide +kernel
theorem dL_law_309 : decode cL_law 309 = .ok (.iadd, 1) := by decide +kernel
theorem dL_law_310 : decode cL_law 310 = .ok (.iaload, 1) := by decide +kernel
theorem dL_law_311 : decode cL_law 311 = .ok (.invokevirtual 38, 3) := by decide +kernel
theorem dL_law_314 : decode cL_law 314 = .ok (.pop, 1) := by decide +kernel
theorem dL_law_315 : decode cL_law 315 = .ok (.aload_n 2, 1) := by decide +kernel
theorem dL_law_316 : decode cL_law 316 = .ok (.aload_n 0, 1) := by decide +kernel
theorem dL_law_317 : decode cL_law 317 = .ok (.iload 4, 2) := by decide +kernel
theorem dL_law_319 : decode cL_law 319 = .ok (.iconst 1, 1) := by decide +kernel
theorem dL_law_320 : decode cL_law 320 = .ok (.iadd, 1) := by decide +kernel
theorem dL_law_321 : decode cL_law 321 = .ok (.iaload, 1) := by decide +kernel
theorem dL_law_322 : decode cL_law 322 = .ok (.invokevirtual 41, 3) := by decide +kernel
theorem dL_law_325 : decode cL_law 325 = .ok (.pop, 1) := by decide +kernel
theorem dL_law_326 : decode cL_law 326 = .ok (.goto 281, 3) := by decide +kernel
theorem dL_law_329 : decode cL_law 329 = .ok (.aload_n 1, 1) := by decide +kernel
theorem dL_law_330 : decode cL_law 330 = .ok (.invokevirtual 42, 3) := by decide +kernel
theorem dL_law_333 : decode cL_law 333 = .ok (.pop, 1) := by decide +kernel
theorem dL_law_334 : decode cL_law 334 = .ok (.aload_n 2, 1) := by decide +kernel
theorem dL_law_335 : decode cL_law 335 = .ok (.invokevirtual 46, 3) := by decide +kernel
theorem dL_law_338 : decode cL_law 338 = .ok (.pop, 1) := by decide +kernel
theorem dL_law_339 : decode cL_law 339 = .ok (.goto 268, 3) := by decide +kernel
theorem dL_law_342 : decode cL_law 342 = .ok (.aload_n 1, 1) := by decide +kernel
theorem dL_law_343 : decode cL_law 343 = .ok (.invokevirtual 47, 3) := by decide +kernel
theorem dL_law_346 : decode cL_law 346 = .ok (.pop, 1) := by decide +kernel
theorem dL_law_347 : decode cL_law 347 = .ok (.aload_n 2, 1) := by decide +kernel
theorem dL_law_348 : decode cL_law 348 = .ok (.invokevirtual 50, 3) := by decide +kernel
theorem dL_law_351 : decode cL_law 351 = .ok (.pop, 1) := by decide +kernel
theorem dL_law_352 : decode cL_law 352 = .ok (.goto 255, 3) := by decide +kernel
theorem dL_law_355 : decode cL_law 355 = .ok (.aload_n 1, 1) := by decide +kernel
theorem dL_law_356 : decode cL_law 356 = .ok (.aload_n 0, 1) := by decide +kernel
theorem dL_law_357 : decode cL_law 357 = .ok (.iload 4, 2) := by decide +kernel
theorem dL_law_359 : decode cL_law 359 = .ok (.iconst 1, 1) := by decide +kernel
theorem dL_law_360 : decode cL_law 360 = .ok (.iadd, 1) := by decide +kernel
theorem dL_law_361 : decode cL_law 361 = .ok (.iaload, 1) := by decide +kernel
theorem dL_law_362 : decode cL_law 362 = .ok (.invokevirtual 51, 3) := by decide +kernel
theorem dL_law_365 : decode cL_law 365 = .ok (.pop, 1) := by decide +kernel
theorem dL_law_366 : decode cL_law 366 = .ok (.aload_n 2, 1) := by decide +kernel
theorem dL_law_367 : decode cL_law 367 = .ok (.aload_n 0, 1) := by decide +kernel
theorem dL_law_368 : decode cL_law 368 = .ok (.iload 4, 2) := by decide +kernel
theorem dL_law_370 : decode cL_law 370 = .ok (.iconst 1, 1) := by decide +kernel
theorem dL_law_371 : decode cL_law 371 = .ok (.iadd, 1) := by decide +kernel
theorem dL_law_372 : decode cL_law 372 = .ok (.iaload, 1) := by decide +kernel
theorem dL_law_373 : decode cL_law 373 = .ok (.invokevirtual 54, 3) := by decide +kernel
theorem dL_law_376 : decode cL_law 376 = .ok (.pop, 1) := by decide +kernel
theorem dL_law_377 : decode cL_law 377 = .ok (.goto 230, 3) := by decide +kernel
theorem dL_law_380 : decode cL_law 380 = .ok (.aload_n 1, 1) := by decide +kernel
theorem dL_law_381 : decode cL_law 381 = .ok (.aload_n 0, 1) := by decide +kernel
theorem dL_law_382 : decode cL_law 382 = .ok (.iload 4, 2) := by decide +kernel
theorem dL_law_384 : decode cL_law 384 = .ok (.iconst 1, 1) := by decide +kernel
theorem dL_law_385 : decode cL_law 385 = .ok (.iadd, 1) := by decide +kernel
theorem dL_law_386 : decode cL_law 386 = .ok (.iaload, 1) := by decide +kernel
theorem dL_law_387 : decode cL_law 387 = .ok (.invokevirtual 55, 3) := by decide +kernel
theorem dL_law_390 : decode cL_law 390 = .ok (.pop, 1) := by decide +kernel
theorem dL_law_391 : decode cL_law 391 = .ok (.aload_n 2, 1) := by decide +kernel
theorem dL_law_392 : decode cL_law 392 = .ok (.aload_n 0, 1) := by decide +kernel
theorem dL_law_393 : decode cL_law 393 = .ok (.iload 4, 2) := by decide +kernel
theorem dL_law_395 : decode cL_law 395 = .ok (.iconst 1, 1) := by decide +kernel
theorem dL_law_396 : decode cL_law 396 = .ok (.iadd, 1) := by decide +kernel
theorem dL_law_397 : decode cL_law 397 = .ok (.iaload, 1) := by decide +kernel
theorem dL_law_398 : decode cL_law 398 = .ok (.invokevirtual 58, 3) := by decide +kernel
theorem dL_law_401 : decode cL_law 401 = .ok (.pop, 1) := by decide +kernel
theorem dL_law_402 : decode cL_law 402 = .ok (.goto 205, 3) := by decide +kernel
theorem dL_law_405 : decode cL_law 405 = .ok (.aload_n 1, 1) := by decide +kernel
theorem dL_law_406 : decode cL_law 406 = .ok (.invokevirtual 59, 3) := by decide +kernel
theorem dL_law_409 : decode cL_law 409 = .ok (.pop, 1) := by decide +kernel
theorem dL_law_410 : decode cL_law 410 = .ok (.aload_n 2, 1) := by decide +kernel
theorem dL_law_411 : decode cL_law 411 = .ok (.invokevirtual 62, 3) := by decide +kernel
theorem dL_law_414 : decode cL_law 414 = .ok (.pop, 1) := by decide +kernel
theorem dL_law_415 : decode cL_law 415 = .ok (.goto 192, 3) := by decide +kernel
theorem dL_law_418 : decode cL_law 418 = .ok (.aload_n 1, 1) := by decide +kernel
theorem dL_law_419 : decode cL_law 419 = .ok (.aload_n 0, 1) := by decide +kernel
theorem dL_law_420 : decode cL_law 420 = .ok (.iload 4, 2) := by decide +kernel
theorem dL_law_422 : decode cL_law 422 = .ok (.iconst 1, 1) := by decide +kernel
theorem dL_law_423 : decode cL_law 423 = .ok (.iadd, 1) := by decide +kernel
theorem dL_law_424 : decode cL_law 424 = .ok (.iaload, 1) := by decide +kernel
theorem dL_law_425 : decode cL_law 425 = .ok (.aload_n 0, 1) := by decide +kernel
theorem dL_law_426 : decode cL_law 426 = .ok (.iload 4, 2) := by decide +kernel
end
section
theorem dL_law_428 : decode cL_law 428 = .ok (.iconst 2, 1) := by decide +kernel
theorem dL_law_429 : decode cL_law 429 = .ok (.iadd, 1) := by decide +kernel
theorem dL_law_430 : decode cL_law 430 = .ok (.iaload, 1) := by decide +kernel
theorem dL_law_431 : decode cL_law 431 = .ok (.invokevirtual 63, 3) := by decide +kernel
theorem dL_law_434 : decode cL_law 434 = .ok (.pop, 1) := by decide +kernel
theorem dL_law_435 : decode cL_law 435 = .ok (.aload_n 2, 1) := by decide +kernel
theorem dL_law_436 : decode cL_law 436 = .ok (.aload_n 0, 1) := by decide +kernel
theorem dL_law_437 : decode cL_law 437 = .ok (.iload 4, 2) := by decide +kernel
theorem dL_law_439 : decode cL_law 439 = .ok (.iconst 1, 1) := by decide +kernel
theorem dL_law_440 : decode cL_law 440 = .ok (.iadd, 1) := by decide +kernel
theorem dL_law_441 : decode cL_law 441 = .ok (.iaload, 1) := by decide +kernel
theorem dL_law_442 : decode cL_law 442 = .ok (.aload_n 0, 1) := by decide +kernel
theorem dL_law_443 : decode cL_law 443 = .ok (.iload 4, 2) := by decide +kernel
theorem dL_law_445 : decode cL_law 445 = .ok (.iconst 2, 1) := by decide +kernel
theorem dL_law_446 : decode cL_law 446 = .ok (.iadd, 1) := by decide +kernel
theorem dL_law_447 : decode cL_law 447 = .ok (.iaload, 1) := by decide +kernel
theorem dL_law_448 : decode cL_law 448 = .ok (.invokevirtual 66, 3) := by decide +kernel
theorem dL_law_451 : decode cL_law 451 = .ok (.pop, 1) := by decide +kernel
theorem dL_law_452 : decode cL_law 452 = .ok (.goto 155, 3) := by decide +kernel
theorem dL_law_455 : decode cL_law 455 = .ok (.aload_n 1, 1) := by decide +kernel
theorem dL_law_456 : decode cL_law 456 = .ok (.aload_n 0, 1) := by decide +kernel
theorem dL_law_457 : decode cL_law 457 = .ok (.iload 4, 2) := by decide +kernel
theorem dL_law_459 : decode cL_law 459 = .ok (.iconst 1, 1) := by decide +kernel
theorem dL_law_460 : decode cL_law 460 = .ok (.iadd, 1) := by decide +kernel
theorem dL_law_461 : decode cL_law 461 = .ok (.iaload, 1) := by decide +kernel
theorem dL_law_462 : decode cL_law 462 = .ok (.invokevirtual 67, 3) := by decide +kernel
theorem dL_law_465 : decode cL_law 465 = .ok (.pop, 1) := by decide +kernel
theorem dL_law_466 : decode cL_law 466 = .ok (.aload_n 2, 1) := by decide +kernel
theorem dL_law_467 : decode cL_law 467 = .ok (.aload_n 0, 1) := by decide +kernel
theorem dL_law_468 : decode cL_law 468 = .ok (.iload 4, 2) := by decide +kernel
theorem dL_law_470 : decode cL_law 470 = .ok (.iconst 1, 1) := by decide +kernel
theorem dL_law_471 : decode cL_law 471 = .ok (.iadd, 1) := by decide +kernel
theorem dL_law_472 : decode cL_law 472 = .ok (.iaload, 1) := by decide +kernel
theorem dL_law_473 : decode cL_law 473 = .ok (.invokevirtual 70, 3) := by decide +kernel
theorem dL_law_476 : decode cL_law 476 = .ok (.pop, 1) := by decide +kernel
theorem dL_law_477 : decode cL_law 477 = .ok (.goto 130, 3) := by decide +kernel
theorem dL_law_480 : decode cL_law 480 = .ok (.aload_n 1, 1) := by decide +kernel
theorem dL_law_481 : decode cL_law 481 = .ok (.aload_n 0, 1) := by decide +kernel
theorem dL_law_482 : decode cL_law 482 = .ok (.iload 4, 2) := by decide +kernel
theorem dL_law_484 : decode cL_law 484 = .ok (.iconst 1, 1) := by decide +kernel
theorem dL_law_485 : decode cL_law 485 = .ok (.iadd, 1) := by decide +kernel
theorem dL_law_486 : decode cL_law 486 = .ok (.iaload, 1) := by decide +kernel
theorem dL_law_487 : decode cL_law 487 = .ok (.aload_n 0, 1) := by decide +kernel
theorem dL_law_488 : decode cL_law 488 = .ok (.iload 4, 2) := by decide +kernel
theorem dL_law_490 : decode cL_law 490 = .ok (.iconst 2, 1) := by decide +kernel
theorem dL_law_491 : decode cL_law 491 = .ok (.iadd, 1) := by decide +kernel
theorem dL_law_492 : decode cL_law 492 = .ok (.iaload, 1) := by decide +kernel
theorem dL_law_493 : decode cL_law 493 = .ok (.invokevirtual 71, 3) := by decide +kernel
theorem dL_law_496 : decode cL_law 496 = .ok (.pop, 1) := by decide +kernel
theorem dL_law_497 : decode cL_law 497 = .ok (.aload_n 2, 1) := by decide +kernel
theorem dL_law_498 : decode cL_law 498 = .ok (.aload_n 0, 1) := by decide +kernel
theorem dL_law_499 : decode cL_law 499 = .ok (.iload 4, 2) := by decide +kernel
theorem dL_law_501 : decode cL_law 501 = .ok (.iconst 1, 1) := by decide +kernel
theorem dL_law_502 : decode cL_law 502 = .ok (.iadd, 1) := by decide +kernel
theorem dL_law_503 : decode cL_law 503 = .ok (.iaload, 1) := by decide +kernel
theorem dL_law_504 : decode cL_law 504 = .ok (.aload_n 0, 1) := by decide +kernel
theorem dL_law_505 : decode cL_law 505 = .ok (.iload 4, 2) := by decide +kernel
theorem dL_law_507 : decode cL_law 507 = .ok (.iconst 2, 1) := by decide +kernel
theorem dL_law_508 : decode cL_law 508 = .ok (.iadd, 1) := by decide +kernel
theorem dL_law_509 : decode cL_law 509 = .ok (.iaload, 1) := by decide +kernel
theorem dL_law_510 : decode cL_law 510 = .ok (.invokevirtual 74, 3) := by decide +kernel
theorem dL_law_513 : decode cL_law 513 = .ok (.pop, 1) := by decide +kernel
theorem dL_law_514 : decode cL_law 514 = .ok (.goto 93, 3) := by decide +kernel
theorem dL_law_517 : decode cL_law 517 = .ok (.aload_n 1, 1) := by decide +kernel
theorem dL_law_518 : decode cL_law 518 = .ok (.aload_n 0, 1) := by decide +kernel
theorem dL_law_519 : decode cL_law 519 = .ok (.iload 4, 2) := by decide +kernel
theorem dL_law_521 : decode cL_law 521 = .ok (.iconst 1, 1) := by decide +kernel
theorem dL_law_522 : decode cL_law 522 = .ok (.iadd, 1) := by decide +kernel
theorem dL_law_523 : decode cL_law 523 = .ok (.iaload, 1) := by decide +kernel
theorem dL_law_524 : decode cL_law 524 = .ok (.aload_n 3, 1) := by decide +kernel
theorem dL_law_525 : decode cL_law 525 = .ok (.invokestatic 75, 3) := by decide +kernel
theorem dL_law_528 : decode cL_law 528 = .ok (.istore 5, 2) := by decide +kernel
theorem dL_law_530 : decode cL_law 530 = .ok (.aload_n 2, 1) := by decide +kernel
theorem dL_law_531 : decode cL_law 531 = .ok (.aload_n 0, 1) := by decide +kernel
theorem dL_law_532 : decode cL_law 532 = .ok (.iload 4, 2) := by decide +kernel
theorem dL_law_534 : decode cL_law 534 = .ok (.iconst 1, 1) := by decide +kernel
theorem dL_law_535 : decode cL_law 535 = .ok (.iadd, 1) := by decide +kernel
theorem dL_law_536 : decode cL_law 536 = .ok (.iaload, 1) := by decide +kernel
theorem dL_law_537 : decode cL_law 537 = .ok (.invokevirtual 80, 3) := by decide +kernel
theorem dL_law_540 : decode cL_law 540 = .ok (.istore 6, 2) := by decide +kernel
theorem dL_law_542 : decode cL_law 542 = .ok (.goto 65, 3) := by decide +kernel
theorem dL_law_545 : decode cL_law 545 = .ok (.aload_n 1, 1) := by decide +kernel
theorem dL_law_546 : decode cL_law 546 = .ok (.aload_n 0, 1) := by decide +kernel
theorem dL_law_547 : decode cL_law 547 = .ok (.iload 4, 2) := by decide +kernel
theorem dL_law_549 : decode cL_law 549 = .ok (.iconst 1, 1) := by decide +kernel
theorem dL_law_550 : decode cL_law 550 = .ok (.iadd, 1) := by decide +kernel
theorem dL_law_551 : decode cL_law 551 = .ok (.iaload, 1) := by decide +kernel
theorem dL_law_552 : decode cL_law 552 = .ok (.invokevirtual 81, 3) := by decide +kernel
theorem dL_law_555 : decode cL_law 555 = .ok (.pop, 1) := by decide +kernel
theorem dL_law_556 : decode cL_law 556 = .ok (.aload_n 2, 1) := by decide +kernel
theorem dL_law_557 : decode cL_law 557 = .ok (.aload_n 0, 1) := by decide +kernel
theorem dL_law_558 : decode cL_law 558 = .ok (.iload 4, 2) := by decide +kernel
theorem dL_law_560 : decode cL_law 560 = .ok (.iconst 1, 1) := by decide +kernel
theorem dL_law_561 : decode cL_law 561 = .ok (.iadd, 1) := by decide +kernel
theorem dL_law_562 : decode cL_law 562 = .ok (.iaload, 1) := by decide +kernel
theorem dL_law_563 : decode cL_law 563 = .ok (.invokevirtual 84, 3) := by decide +kernel
theorem dL_law_566 : decode cL_law 566 = .ok (.pop, 1) := by decide +kernel
theorem dL_law_567 : decode cL_law 567 = .ok (.goto 40, 3) := by decide +kernel
theorem dL_law_570 : decode cL_law 570 = .ok (.aload_n 1, 1) := by decide +kernel
theorem dL_law_571 : decode cL_law 571 = .ok (.aload_n 0, 1) := by decide +kernel
theorem dL_law_572 : decode cL_law 572 = .ok (.iload 4, 2) := by decide +kernel
theorem dL_law_574 : decode cL_law 574 = .ok (.iconst 1, 1) := by decide +kernel
theorem dL_law_575 : decode cL_law 575 = .ok (.iadd, 1) := by decide +kernel
theorem dL_law_576 : decode cL_law 576 = .ok (.iaload, 1) := by decide +kernel
theorem dL_law_577 : decode cL_law 577 = .ok (.aload_n 0, 1) := by decide +kernel
theorem dL_law_578 : decode cL_law 578 = .ok (.iload 4, 2) := by decide +kernel
theorem dL_law_580 : decode cL_law 580 = .ok (.iconst 2, 1) := by decide +kernel
theorem dL_law_581 : decode cL_law 581 = .ok (.iadd, 1) := by decide +kernel
theorem dL_law_582 : decode cL_law 582 = .ok (.iaload, 1) := by decide +kernel
theorem dL_law_583 : decode cL_law 583 = .ok (.invokevirtual 85, 3) := by decide +kernel
theorem dL_law_586 : decode cL_law 586 = .ok (.pop, 1) := by decide +kernel
theorem dL_law_587 : decode cL_law 587 = .ok (.aload_n 2, 1) := by decide +kernel
theorem dL_law_588 : decode cL_law 588 = .ok (.aload_n 0, 1) := by decide +kernel
theorem dL_law_589 : decode cL_law 589 = .ok (.iload 4, 2) := by decide +kernel
theorem dL_law_591 : decode cL_law 591 = .ok (.iconst 1, 1) := by decide +kernel
theorem dL_law_592 : decode cL_law 592 = .ok (.iadd, 1) := by decide +kernel
theorem dL_law_593 : decode cL_law 593 = .ok (.iaload, 1) := by decide +kernel
theorem dL_law_594 : decode cL_law 594 = .ok (.aload_n 0, 1) := by decide +kernel
theorem dL_law_595 : decode cL_law 595 = .ok (.iload 4, 2) := by decide +kernel
theorem dL_law_597 : decode cL_law 597 = .ok (.iconst 2, 1) := by decide +kernel
theorem dL_law_598 : decode cL_law 598 = .ok (.iadd, 1) := by decide +kernel
theorem dL_law_599 : decode cL_law 599 = .ok (.iaload, 1) := by decide +kernel
theorem dL_law_600 : decode cL_law 600 = .ok (.invokevirtual 88, 3) := by decide +kernel
theorem dL_law_603 : decode cL_law 603 = .ok (.pop, 1) := by decide +kernel
theorem dL_law_604 : decode cL_law 604 = .ok (.goto 3, 3) := by decide +kernel
theorem dL_law_607 : decode cL_law 607 = .ok (.iinc 4 5, 3) := by decide +kernel
theorem dL_law_610 : decode cL_law 610 = .ok (.goto (-587), 3) := by decide +kernel
theorem dL_law_613 : decode cL_law 613 = .ok (.iconst 1, 1) := by decide +kernel
theorem dL_law_614 : decode cL_law 614 = .ok (.ireturn, 1) := by decide +kernel
abbrev vwCl : List vw_C := [(RX0, TX0, 1), (RX1, TX1, 3), (RX2, TX2, 3), (RX3, TX3, 4), (RX4, TX4, 12), (RX5, TX5, 5), (RX6, TX6, 29)]
end
section
section CX
variable {p : Program} {l : Launch} {e : Env} {R : Room} {s : State} {m : MethodId} {args : Array Value} {below : List Frame} {meth : Method} {c : Code} {H : Heap} {locs : List Loc} {cells slots : Nat} {Q : State → Prop}
/-- the search in a table of one row, which covers the place and names a class that the thing is of -/
theorem cx_find {T : State} {g : JFrame} {q : Addr} {x : ExceptionTableEntry} {k : ClassId} {ce : Cell} (hm : T.vm.method? g.method = some meth) (hc : meth.code = some c) (hs : c.exceptionTable.toList = [x]) (hx : covers x g.pc = true) (h0 : x.catchType ≠ 0)
    (hl : T.vm.ClassLinks e.platform g.method.cls x.catchType k) (hcell : T.heap[q]? = some ce) (hobj : ∀ j, ce.vm ≠ .statics j) (hk1 : ∃ j, T.vm.classes[ce.cls]? = some j) (hk2 : ∃ j, T.vm.classes[k]? = some j) (hfit : T.vm.assignable ce.cls k = true)
    (Q9 : Handler → Pre) (E9 : CtlPost) (d : Bool) (acts : List Action) : wp (findHandler g q) Q9 E9 e d acts T ↔ Q9 (.found x.handlerPc) d acts (T.setVm (T.vm.noted g.method.cls x.catchType (.cls k))) := by
  rw [W.findHandler_eq hm hc, hs]
  simp only [covers] at hx
  obtain ⟨r1, r2⟩ := (resolveClass_links e.toSetting hl).op (op := VmOp.resolveClass g.method.cls x.catchType) rfl
  have al : T.vm.Alike (T.vm.noted g.method.cls x.catchType (.cls k)) := (Vm.Alike.refl T.vm).noted _ _ _
  obtain ⟨j1, hj1⟩ := hk1
  obtain ⟨j2, hj2⟩ := hk2
  obtain ⟨i1, hi1, -⟩ := al.2.2 _ _ hj1
  obtain ⟨i2, hi2, -⟩ := al.2.2 _ _ hj2
  have hfit2 : (T.vm.noted g.method.cls x.catchType (.cls k)).assignable ce.cls k = true := by rw [al.assignable]; exact hfit
  simp [findHandler.go, hx, h0, r1, r2, hcell, hobj, hi1, hi2, hfit2, VmOp.dirties, VmOp.acts]
/-- caught by the one row of this method's table -/
theorem cx_catch {own name E : String} {ce : Cell} {q : Addr} {pc : Nat} {ls : Array Slot} {rest : List Value} (hown : s.vm.findClass own = some m.cls) (x : ExceptionTableEntry) (hsplit : c.exceptionTable.toList = [x]) (hx : covers x pc = true) (h0 : x.catchType ≠ 0)
    (hlink : (Cond.classLink own x.catchType name).before args s = true) (hcast : (Cond.castable E name).before args s = true) (hcell : H[q]? = some ce) (hv : ce.vm = .none) (hcl : s.vm.findClass E = some ce.cls)
    (kk : W p l e R s m args below meth c H locs cells slots Q (F0 m x.handlerPc ls [.ref q])) : vx_W p l e R s m args below meth c H locs cells slots Q (F0 m pc ls rest) q := by
  intro T hT X
  have hpl : e.platform.magicAccessors = ({} : Platform).magicAccessors := by rw [X.admits.platform]
  obtain ⟨c3, c4, hc3, hc4, hasg⟩ := Cond.castable_spec hcast
  cases Option.some.inj (hc3.symm.trans hcl)
  obtain ⟨c5, hc5, hcl5⟩ := Cond.classLink_spec hown hlink e.platform hpl
  cases Option.some.inj (hc4.symm.trans hc5)
  obtain ⟨dk, _, _, kt, hd, _, _, _, _, hkt, _, hopen⟩ := hcl5.here
  have hw1 : s.WarmedH (T.vm.noted m.cls x.catchType (.cls c4)) := X.warmed.noted hd hopen (State.rightAt_cls hcl5)
  obtain ⟨kt2, hkt2, -⟩ := X.warmed.alike.2.2 _ _ hkt
  have hf2 : T.vm.assignable ce.cls c4 = true := by rw [X.warmed.alike.assignable]; exact hasg
  obtain ⟨t, a1, b1⟩ := kk (T.setVm (T.vm.noted m.cls x.catchType (.cls c4))) hT (X.noted hw1)
  refine ⟨t, ?_, b1⟩
  have key := cx_find (e := e) (T := (T.setTop (F0 m pc ls rest)).pushFrame (.throwing q)) (g := F0 m pc ls rest) (q := q) (meth := meth) (c := c) (x := x) (k := c4) (ce := ce) X.method' X.code hsplit hx h0 (X.warmed.classLinks hcl5) (by show T.heap[q]? = some ce; rw [hT]; exact hcell) (fun j h => by rw [hv] at h; cases h) (Vm.classAt_of_assignable hf2 ⟨kt2, hkt2⟩) ⟨kt2, hkt2⟩ hf2
  obtain ⟨hgo, hw⟩ := At.throwing (g := F0 m pc ls rest) X.here q
  refine Steps.head hgo hw ?_
  have hstep : (stepThrowing e ((T.setTop (F0 m pc ls rest)).pushFrame (.throwing q)) q (.java (F0 m pc ls rest) :: T.frames.tail)).Is ((((T.setTop (F0 m pc ls rest)).pushFrame (.throwing q)).setVm (T.vm.noted m.cls x.catchType (.cls c4))).setFrames (.java (F0 m x.handlerPc ls [.ref q]) :: T.frames.tail)) [] := by
    simp only [stepThrowing, searchFrame, vmDo]
    generalize hr : Sem.go _ e false [] ((T.setTop (F0 m pc ls rest)).pushFrame (.throwing q)) = res
    obtain ⟨as, rfl, ha⟩ := Sem.eq_ok_of hr (a := Handler.found x.handlerPc) (s' := ((T.setTop (F0 m pc ls rest)).pushFrame (.throwing q)).setVm (T.vm.noted m.cls x.catchType (.cls c4))) (acts' := []) (by simp [key]; rfl)
    exact ⟨rfl, ha⟩
  rw [stepThread_throwing (frames_entered X.here.top _), hstep.1]
  obtain ⟨g0, hg⟩ := Option.isSome_iff_exists.mp X.here.top
  obtain ⟨r, hr⟩ := State.topJava?_eq_some.mp hg
  have hr2 : (T.setVm (T.vm.noted m.cls x.catchType (.cls c4))).frames = .java g0 :: r := hr
  rw [State.setTop_of_frames _ hr2] at a1
  have e1 : ∀ (u : State) (v : Vm) (F G : List Frame), ((u.setFrames F).setVm v).setFrames G = (u.setVm v).setFrames G := fun u v F G => by
    have h1 : (u.setFrames F).setVm v = (u.setVm v).setFrames F := rfl
    rw [h1, State.setFrames_setFrames]
  rw [hr, List.tail_cons, State.pushFrame, e1, State.setTop_of_frames _ hr, e1]
  exact a1
end CX
end
section
/-- the nest's own members, as LendThreads names them -/
def nwL : List Cond := [.fieldLinkNest RX5 103 RX4 "state" "I" RX5, .fieldLinkNest RX5 106 RX4 "latest" "I" RX5, .fieldLinkNest RX5 112 RX4 "begunAgain" "I" RX5, .fieldLinkNest RX5 115 RX4 "step" "I" RX5, .fieldLinkNest RX5 118 RX4 "got" "I" RX5, .fieldLinkNest RX5 124 RX4 "askedFor" "I" RX5, .fieldLinkNest RX5 127 RX3 "holders" "[I" RX5, .fieldLinkNest RX5 131 RX3 "lines" "LLendThreads$Rows;" RX5, .fieldLinkNest RX5 144 RX3 "values" "[I" RX5, .fieldLinkNest RX5 147 RX0 "lines" "LLendThreads$Rows;" RX5, .fieldLinkNest RX5 43 RX4 "steps" "I" RX5, .fieldLinkNest RX5 46 RX4 "failsAt" "I" RX5, .fieldLinkNest RX5 49 RX4 "number" "I" RX5, .fieldLinkNest RX5 67 RX4 "hadTurn" "Z" RX5, .fieldLinkNest RX5 71 RX4 "wanted" "LLendThreads$Rows;" RX5, .fieldLinkNest RX5 81 RX4 "receivers" "LLendThreads$Rows;" RX5, .fieldLinkNest RX5 84 RX1 "toLose" "I" RX5, .methodLinkNest RX5 24 yX1_init RX5, .methodLinkNest RX5 31 yX0_init RX5]
def nw (U : State) : Prop := ∀ w ∈ nwL, va_Nw w U
theorem nwL_tab : ∀ w ∈ nwL, w.onTables = true := by decide +kernel
theorem nw_warm {s U : State} (hW : s.WarmedH U.vm) (h : nw s) : nw U := by
  intro w hw
  have h1 := h w hw
  unfold nwL at hw
  repeat (rcases List.mem_cons.mp hw with rfl | hw; · first | exact va_Nw.warmF hW h1 | exact va_Nw.warmM hW h1)
  cases hw
theorem nw_same {u U : State} (e : u.vm = U.vm) (h : nw u) : nw U := fun w hw => va_Nw.same (nwL_tab w hw) e (h w hw)
theorem nw_of {A : Array Value} {U : State} (h : ∀ w ∈ nwL, w.before A U = true) : nw U := fun w hw => va_Nw.of (nwL_tab w hw) (h w hw)
/-- what every method takes as known of the tables -/
def kb (dC : Nat → ClassId) (dI : Nat → Nat → Nat) (cI : ClassId) (U : State) : Prop := va_K (dC, dI) vwCl [(cI, .int)] U ∧ U.vm.findClass "[I" = some cI ∧ nw U
theorem kb.warm {dC : Nat → ClassId} {dI : Nat → Nat → Nat} {cI : ClassId} {s U : State} (hW : s.WarmedH U.vm) (h : kb dC dI cI s) : kb dC dI cI U := ⟨va_K.moved hW.alike h.1, by rw [hW.alike.findClass]; exact h.2.1, nw_warm hW h.2.2⟩
theorem kb.calling {dC : Nat → ClassId} {dI : Nat → Nat → Nat} {cI : ClassId} {U : State} {g : JFrame} {mk : MethodId} {a : Array Value} (h : kb dC dI cI U) : kb dC dI cI (U.calling g mk a) := ⟨va_K.moved (u := U) (U := U.calling g mk a) (Vm.Alike.refl U.vm) h.1, h.2.1, nw_same (u := U) (U := U.calling g mk a) rfl h.2.2⟩
/-- the start of a method that only reads: its values, and the cells that it reads -/
def rP (dC : Nat → ClassId) (dI : Nat → Nat → Nat) (cI : ClassId) (av : List Value) (ws : va_W) : Array Value → State → Prop := va_Pc av (fun U => va_P (dC, dI) vwCl ws U.heap ∧ kb dC dI cI U)
theorem rP_blind {dC : Nat → ClassId} {dI : Nat → Nat → Nat} {cI : ClassId} {av : List Value} {ws : va_W} : FrameBlind (rP dC dI cI av ws) := fun a U g mk q => ⟨q.1, q.2.1, kb.calling q.2.2⟩
theorem rP_preS {dC : Nat → ClassId} {dI : Nat → Nat → Nat} {cI : ClassId} {av : List Value} {ws : va_W} {s : State} {H : Heap} (hK : kb dC dI cI s) (hP : va_P (dC, dI) vwCl ws H) : PreS s H (rP dC dI cI av ws) av := ⟨rP_blind, fun U hU hW => ⟨rfl, by rw [hU]; exact hP, hK.warm hW⟩⟩
theorem rP_preV {dC : Nat → ClassId} {dI : Nat → Nat → Nat} {cI : ClassId} {av : List Value} {ws : va_W} {s : State} {H : Heap} {b : Addr} {C : String} (hK : kb dC dI cI s) (hP : va_P (dC, dI) vwCl ws H) (hr : ∃ cellB : Cell, H[b]? = some cellB ∧ cellB.vm.isStatics = false ∧ s.vm.findClass C = some cellB.cls) : PreV s H C b (rP dC dI cI (.ref b :: av) ws) av := ⟨rP_blind, hr, fun U hU hW => ⟨rfl, by rw [hU]; exact hP, hK.warm hW⟩⟩
/-- the start of a method that writes: its cells are apart -/
def uP (dC : Nat → ClassId) (dI : Nat → Nat → Nat) (cI : ClassId) (av : List Value) (ws : va_W) (sz : Nat) : Array Value → State → Prop := va_Pc av (fun U => U.heap.size = sz ∧ va_P (dC, dI) vwCl ws U.heap ∧ kb dC dI cI U ∧ va_D (fun _ => True) ws)
theorem uP_blind {dC : Nat → ClassId} {dI : Nat → Nat → Nat} {cI : ClassId} {av : List Value} {ws : va_W} {sz : Nat} : FrameBlind (uP dC dI cI av ws sz) := fun a U g mk q => ⟨q.1, q.2.1, q.2.2.1, kb.calling q.2.2.2.1, q.2.2.2.2⟩
theorem uP_preS {dC : Nat → ClassId} {dI : Nat → Nat → Nat} {cI : ClassId} {av : List Value} {ws : va_W} {s : State} {H : Heap} {A : Nat → Prop} (hK : kb dC dI cI s) (hP : va_P (dC, dI) vwCl ws H) (hD : va_D A ws) : PreS s H (uP dC dI cI av ws H.size) av := ⟨uP_blind, fun U hU hW => ⟨rfl, by rw [hU], by rw [hU]; exact hP, hK.warm hW, hD.weaken (fun _ _ _ _ => trivial)⟩⟩
theorem uP_preV {dC : Nat → ClassId} {dI : Nat → Nat → Nat} {cI : ClassId} {av : List Value} {ws : va_W} {s : State} {H : Heap} {A : Nat → Prop} {b : Addr} {C : String} (hK : kb dC dI cI s) (hP : va_P (dC, dI) vwCl ws H) (hD : va_D A ws) (hr : ∃ cellB : Cell, H[b]? = some cellB ∧ cellB.vm.isStatics = false ∧ s.vm.findClass C = some cellB.cls) : PreV s H C b (uP dC dI cI (.ref b :: av) ws H.size) av := ⟨uP_blind, hr, fun U hU hW => ⟨rfl, by rw [hU], by rw [hU]; exact hP, hK.warm hW, hD.weaken (fun _ _ _ _ => trivial)⟩⟩
/-- the world behind a method that writes -/
def uB (dC : Nat → ClassId) (dI : Nat → Nat → Nat) (A : Nat → Prop) (ws : va_W) (t : State) : Prop := va_P (dC, dI) vwCl ws t.heap ∧ va_D A ws
section BN
variable {p : Program} {l : Launch} {e : Env} {R : Room} {s : State} {m : MethodId} {args : Array Value} {below : List Frame} {meth : Method} {c : Code} {H : Heap} {locs : List Loc} {cells slots : Nat} {Q : State → Prop}
variable {cc : ByteArray} {pc : Nat} {ls : Array Slot} {rest : List Value} {A : Nat → Prop} {ws : va_W} {H0 : Heap} {dC : Nat → ClassId} {dI : Nat → Nat → Nat} {cI : ClassId}
/-- a new array of ints, its class the one that is known -/
theorem bn_newI (hexec : p.tables.exec = Jvm.exec) (hb : c.code = cc) (harr : (Cond.arrayClass .int).before args s = true) (hK : kb dC dI cI s) (hP : va_P (dC, dI) vwCl ws H) (hD : va_D A ws) (hS : va_S A H0 H locs) (hA : ∀ q, H0.size ≤ q → A q)
    {n : Int32} {N' : Nat} (hn : ¬ n < 0) (hN : n.toNatClampNeg = N') (hbytes : N' * 4 ≤ 536870912) (hcells : cells + 1 ≤ R.cells) (hslots : slots + N' ≤ R.slots) (hdg : decode cc pc = .ok (.newarray .int, 2))
    (kk : ∀ (q : Nat) (H1 : Heap), va_P (dC, dI) vwCl (ws ++ [(q, .inl (cI, N', .inl (fun _ => 0)))]) H1 → va_D A (ws ++ [(q, .inl (cI, N', .inl (fun _ => 0)))]) → va_S A H0 H1 locs →
      W p l e R s m args below meth c H1 locs (cells + 1) (slots + N') Q (F0 m (pc + 2) ls (.ref q :: rest))) : W p l e R s m args below meth c H locs cells slots Q (F0 m pc ls (.int n :: rest)) := by
  refine va_newaK (atype := .int) hexec hb harr rfl hdg rfl hn hN hbytes hcells hslots rfl fun H1 cA e1 z1 o1 hAr hNm => ?_
  have hc : cA = cI := Option.some.inj (hNm.symm.trans hK.2.1)
  subst hc
  have hk : ∀ (k : Nat) (x : Nat × va_E), ws[k]? = some x → H1[x.1]? = H[x.1]? := fun k x hx => o1 x.1 ((hP k x hx).lt)
  refine kk H.size H1 ((hP.kept hk).app (fun k x hx => ?_)) (hD.push hP rfl (hA _ hS.1)) ⟨Nat.le_trans hS.1 (by omega), fun x h1 h2 => (o1 x (Nat.lt_of_lt_of_le h1 hS.1)).trans (hS.2.1 x h1 h2), hS.2.2⟩
  have hz : k < 1 := (List.getElem?_eq_some_iff.mp hx).1
  rw [show k = 0 by omega] at hx
  cases hx
  exact e1
end BN
/-- the places of a first part of a world, and of the rest -/
theorem bn_pre {a b : va_W} : (List.range a.length).map (fun i => (a ++ b)[i]?) = a.map some := by
  apply List.ext_getElem?
  intro i
  by_cases h : i < a.length
  · simp [h, List.getElem?_append_left h]
  · simp [h]
end
section
theorem bn_neg1 {x : Int32} (h1 : ¬ x < 0) (h2 : ¬ (-1 : Int32) < x) : False := by
  rw [Int32.lt_iff_toInt_lt] at h1 h2
  have e1 : (-1 : Int32).toInt = -1 := by decide
  have e0 : (0 : Int32).toInt = 0 := by decide
  omega
theorem bn_lt {x : Int32} {n : Nat} (h : vp_in x n) : x.toNatClampNeg < n := Nat.not_le.mp fun q => h (Or.inr q)
theorem bn_in {x : Int32} {n : Nat} (hn : n < 2 ^ 31) (h1 : ¬ x < 0) (h2 : ¬ nI n ≤ x) : vp_in x n := by
  rw [vp_in_iff]
  rw [Int32.lt_iff_toInt_lt] at h1
  rw [Int32.le_iff_toInt_le, nI_toInt hn] at h2
  have e0 : (0 : Int32).toInt = 0 := by decide
  omega
set_option maxHeartbeats 4000000 in
set_option maxRecDepth 100000 in
/-- isCopy -/
theorem c_isCopy (l : Launch) (dC : Nat → ClassId) (dI : Nat → Nat → Nat) (cI : ClassId) (v : Int32) : Met l yX5_isCopy wsX5_isCopy ({ frames := 0, cells := 0, slots := 0, locals := 0 }) (rP dC dI cI [.int v] []) (vp_Si (fun r => (r = 1 ∧ ¬ v < 0 ∧ ¬ 10 ≤ v) ∨ (r = 0 ∧ (v < 0 ∨ 10 ≤ v)))) 0 0 (fun _ => False) := by
  refine Met.ofW (cc := cX5_isCopy) (maxL := 1) (ret := (some .boolean)) (by decide) rfl ?_
  intro p e s m args below meth c s₁ B hml hv
  obtain ⟨rfl, hP, hKK⟩ := hv
  have hx := B.exec
  have hb := B.bytes
  have hr := B.returns
  have hts := atoms_spec (ws := wsX5_isCopy) B.pre
  have hown : s.vm.findClass RX5 = some m.cls := findClass_of_methodNamed B.named
  have hlocks := B.notSynchronized
  have hP : va_P (dC, dI) vwCl [] s.heap := hP
  have hl := lv_entry ([.int v]) (n := 1) (Nat.le_of_ble_eq_true rfl)
  rw [lg_entry_eq]
  generalize (lg_sl ([.int v]) ++ List.replicate (1 - (lg_sl ([.int v])).length) Slot.unset).toArray = ls at hl ⊢
  have hl : lv_has ls 1 [(0, .int v)] := hl
  refine lv_iload_n hx hb dX5_isCopy_0 rfl (lv_at hl 0 rfl) ?_
  refine lv_if_lt (tgt := 14) hx hb dX5_isCopy_1 (by decide) (fun c_1 => ?_) (fun c_1 => ?_)
  · refine lv_iconst (v := 0) hx hb dX5_isCopy_14 (by decide) ?_
    exact W.zret (v := 0) (ty := .boolean) hx hb hr (by rfl) (fun t ht hW => ⟨0, rfl, by simp [c_1], ht⟩) (fun _ h => by cases h) dX5_isCopy_15
  · refine lv_iload_n hx hb dX5_isCopy_4 rfl (lv_at hl 0 rfl) ?_
    refine lv_bipush (v := 10) hx hb dX5_isCopy_5 (by decide) ?_
    refine lv_icmp_ge (tgt := 14) hx hb dX5_isCopy_7 (by decide) (fun c_2 => ?_) (fun c_2 => ?_)
    · refine lv_iconst (v := 0) hx hb dX5_isCopy_14 (by decide) ?_
      exact W.zret (v := 0) (ty := .boolean) hx hb hr (by rfl) (fun t ht hW => ⟨0, rfl, by simp [c_1, c_2], ht⟩) (fun _ h => by cases h) dX5_isCopy_15
    · refine lv_iconst (v := 1) hx hb dX5_isCopy_10 (by decide) ?_
      refine lv_goto (tgt := 15) hx hb dX5_isCopy_11 (by decide) ?_
      exact W.zret (v := 1) (ty := .boolean) hx hb hr (by rfl) (fun t ht hW => ⟨1, rfl, by simp [c_1, c_2], ht⟩) (fun _ h => by cases h) dX5_isCopy_15
set_option maxHeartbeats 4000000 in
set_option maxRecDepth 100000 in
/-- in -/
theorem c_in (l : Launch) (dC : Nat → ClassId) (dI : Nat → Nat → Nat) (cI : ClassId) (v lo hi : Int32) : Met l yX6_in wsX6_in ({ frames := 0, cells := 0, slots := 0, locals := 0 }) (rP dC dI cI [.int v, .int lo, .int hi] []) (vp_Si (fun r => (r = 1 ∧ ¬ v < lo ∧ ¬ hi < v) ∨ (r = 0 ∧ (v < lo ∨ hi < v)))) 0 0 (fun _ => False) := by
  refine Met.ofW (cc := cX6_in) (maxL := 3) (ret := (some .boolean)) (by decide) rfl ?_
  intro p e s m args below meth c s₁ B hml hv
  obtain ⟨rfl, hP, hKK⟩ := hv
  have hx := B.exec
  have hb := B.bytes
  have hr := B.returns
  have hts := atoms_spec (ws := wsX6_in) B.pre
  have hown : s.vm.findClass RX6 = some m.cls := findClass_of_methodNamed B.named
  have hlocks := B.notSynchronized
  have hP : va_P (dC, dI) vwCl [] s.heap := hP
  have hl := lv_entry ([.int v, .int lo, .int hi]) (n := 3) (Nat.le_of_ble_eq_true rfl)
  rw [lg_entry_eq]
  generalize (lg_sl ([.int v, .int lo, .int hi]) ++ List.replicate (3 - (lg_sl ([.int v, .int lo, .int hi])).length) Slot.unset).toArray = ls at hl ⊢
  have hl : lv_has ls 3 [(0, .int v), (1, .int lo), (2, .int hi)] := hl
  refine lv_iload_n hx hb dX6_in_0 rfl (lv_at hl 0 rfl) ?_
  refine lv_iload_n hx hb dX6_in_1 rfl (lv_at hl 1 rfl) ?_
  refine lv_icmp_lt (tgt := 14) hx hb dX6_in_2 (by decide) (fun c_1 => ?_) (fun c_1 => ?_)
  · refine lv_iconst (v := 0) hx hb dX6_in_14 (by decide) ?_
    exact W.zret (v := 0) (ty := .boolean) hx hb hr (by rfl) (fun t ht hW => ⟨0, rfl, by simp [c_1], ht⟩) (fun _ h => by cases h) dX6_in_15
  · refine lv_iload_n hx hb dX6_in_5 rfl (lv_at hl 0 rfl) ?_
    refine lv_iload_n hx hb dX6_in_6 rfl (lv_at hl 2 rfl) ?_
    refine lv_icmp_gt (tgt := 14) hx hb dX6_in_7 (by decide) (fun c_2 => ?_) (fun c_2 => ?_)
    · refine lv_iconst (v := 0) hx hb dX6_in_14 (by decide) ?_
      exact W.zret (v := 0) (ty := .boolean) hx hb hr (by rfl) (fun t ht hW => ⟨0, rfl, by simp [c_1, c_2], ht⟩) (fun _ h => by cases h) dX6_in_15
    · refine lv_iconst (v := 1) hx hb dX6_in_10 (by decide) ?_
      refine lv_goto (tgt := 15) hx hb dX6_in_11 (by decide) ?_
      exact W.zret (v := 1) (ty := .boolean) hx hb hr (by rfl) (fun t ht hW => ⟨1, rfl, by simp [c_1, c_2], ht⟩) (fun _ h => by cases h) dX6_in_15
theorem iX2_count_X2 : ∀ w ∈ u_ws RX2 TX2 3, w ∈ wsX2_count := by decide +kernel
set_option maxHeartbeats 4000000 in
set_option maxRecDepth 100000 in
/-- Rows.count -/
theorem c_Rows_count (l : Launch) (dC : Nat → ClassId) (dI : Nat → Nat → Nat) (cI : ClassId) (h0 h1 h2 : Nat) (room : Int32) (n : Nat) (f : Nat → Int32) (hn : n < 2 ^ 31) (v : Int32) : Met l yX2_count wsX2_count ({ frames := 0, cells := 0, slots := 0, locals := 0 }) (rP dC dI cI [.ref h0, .int v] [(h0, .inr (2, [.int room, .ref h1, .ref h2])), (h1, .inl (cI, n, .inl f))]) (vp_Si (fun r => (¬ v < 0 ∧ ¬ nI n ≤ v ∧ r = f v.toNatClampNeg) ∨ (r = 0 ∧ (v < 0 ∨ nI n ≤ v)))) 0 0 (fun _ => False) := by
  refine Met.ofW (cc := cX2_count) (maxL := 2) (ret := (some .int)) (by decide) rfl ?_
  intro p e s m args below meth c s₁ B hml hv
  obtain ⟨rfl, hP, hKK⟩ := hv
  have hx := B.exec
  have hb := B.bytes
  have hr := B.returns
  have hts := atoms_spec (ws := wsX2_count) B.pre
  have hown : s.vm.findClass RX2 = some m.cls := findClass_of_methodNamed B.named
  have hlocks := B.notSynchronized
  have hP : va_P (dC, dI) vwCl [(h0, .inr (2, [.int room, .ref h1, .ref h2])), (h1, .inl (cI, n, .inl f))] s.heap := hP
  have hl := lv_entry ([.ref h0, .int v]) (n := 2) (Nat.le_of_ble_eq_true rfl)
  rw [lg_entry_eq]
  generalize (lg_sl ([.ref h0, .int v]) ++ List.replicate (2 - (lg_sl ([.ref h0, .int v])).length) Slot.unset).toArray = ls at hl ⊢
  have hl : lv_has ls 2 [(0, .ref h0), (1, .int v)] := hl
  refine lv_iload_n hx hb dX2_count_0 rfl (lv_at hl 1 rfl) ?_
  refine lv_if_lt (tgt := 22) hx hb dX2_count_1 (by decide) (fun c_1 => ?_) (fun c_1 => ?_)
  · refine lv_iconst (v := 0) hx hb dX2_count_22 (by decide) ?_
    exact W.iret (v := 0) hx hb hr (fun t ht hW => ⟨0, rfl, Or.inr ⟨rfl, Or.inl c_1⟩, ht⟩) (fun _ h => by cases h) dX2_count_23
  · refine lv_iload_n hx hb dX2_count_4 rfl (lv_at hl 1 rfl) ?_
    refine lv_aload_n hx hb dX2_count_5 rfl (lv_at hl 0 rfl) ?_
    refine va_get (D := (dC, dI)) (ci := 2) (v := .ref h1) (C := RX2) (T := TX2) (N := 3) hx hb hts iX2_count_X2 hown hKK.1 hP 0 rfl rfl 1 (by decide) (hts (.fieldLink RX2 15 "LendThreads$Rows" "counts" "[I") (by decide +kernel)) (fun _ h9 => h9) rfl dX2_count_6 ?_
    refine va_alen (v := nI n) hx hb hKK.1 hP 1 0 rfl rfl rfl dX2_count_9 ?_
    refine lv_icmp_ge (tgt := 22) hx hb dX2_count_10 (by decide) (fun c_3 => ?_) (fun c_3 => ?_)
    · refine lv_iconst (v := 0) hx hb dX2_count_22 (by decide) ?_
      exact W.iret (v := 0) hx hb hr (fun t ht hW => ⟨0, rfl, Or.inr ⟨rfl, Or.inr c_3⟩, ht⟩) (fun _ h => by cases h) dX2_count_23
    · refine lv_aload_n hx hb dX2_count_13 rfl (lv_at hl 0 rfl) ?_
      refine va_get (D := (dC, dI)) (ci := 2) (v := .ref h1) (C := RX2) (T := TX2) (N := 3) hx hb hts iX2_count_X2 hown hKK.1 hP 0 rfl rfl 1 (by decide) (hts (.fieldLink RX2 15 "LendThreads$Rows" "counts" "[I") (by decide +kernel)) (fun _ h9 => h9) rfl dX2_count_14 ?_
      refine lv_iload_n hx hb dX2_count_17 rfl (lv_at hl 1 rfl) ?_
      refine va_iald hx hb hKK.1 hP 1 0 rfl rfl (bn_in hn c_1 c_3) dX2_count_18 ?_
      refine lv_topi (fun x_4 ex_4 => ?_)
      refine lv_goto (tgt := 23) hx hb dX2_count_19 (by decide) ?_
      exact W.iret (v := x_4) hx hb hr (fun t ht hW => ⟨x_4, rfl, Or.inl ⟨c_1, c_3, ex_4⟩, ht⟩) (fun _ h => by cases h) dX2_count_23
set_option maxHeartbeats 4000000 in
set_option maxRecDepth 100000 in
/-- Rows.item, nothing in the rows -/
theorem c_Rows_item0 (l : Launch) (dC : Nat → ClassId) (dI : Nat → Nat → Nat) (cI : ClassId) (h0 h1 h2 : Nat) (room : Int32) (n : Nat) (f : Nat → Int32) (hn : n < 2 ^ 31) (hf : ∀ j, f j = 0) (v i : Int32) : Met l yX2_item wsX2_item ({ frames := 1, cells := 0, slots := 0, locals := 21 }) (rP dC dI cI [.ref h0, .int v, .int i] [(h0, .inr (2, [.int room, .ref h1, .ref h2])), (h1, .inl (cI, n, .inl f))]) (vp_Si (fun r => r = -1)) 0 0 (fun _ => False) := by
  refine Met.ofW (cc := cX2_item) (maxL := 3) (ret := (some .int)) (by decide) rfl ?_
  intro p e s m args below meth c s₁ B hml hv
  obtain ⟨rfl, hP, hKK⟩ := hv
  have hx := B.exec
  have hb := B.bytes
  have hr := B.returns
  have hts := atoms_spec (ws := wsX2_item) B.pre
  have hown : s.vm.findClass RX2 = some m.cls := findClass_of_methodNamed B.named
  have hlocks := B.notSynchronized
  have hP : va_P (dC, dI) vwCl [(h0, .inr (2, [.int room, .ref h1, .ref h2])), (h1, .inl (cI, n, .inl f))] s.heap := hP
  have hl := lv_entry ([.ref h0, .int v, .int i]) (n := 3) (Nat.le_of_ble_eq_true rfl)
  rw [lg_entry_eq]
  generalize (lg_sl ([.ref h0, .int v, .int i]) ++ List.replicate (3 - (lg_sl ([.ref h0, .int v, .int i])).length) Slot.unset).toArray = ls at hl ⊢
  have hl : lv_has ls 3 [(0, .ref h0), (1, .int v), (2, .int i)] := hl
  refine lv_iload_n hx hb dX2_item_0 rfl (lv_at hl 2 rfl) ?_
  refine lv_if_lt (tgt := 29) hx hb dX2_item_1 (by decide) (fun c_1 => ?_) (fun c_1 => ?_)
  · refine lv_iconst (v := (-1)) hx hb dX2_item_29 (by decide) ?_
    exact W.iret (v := (-1)) hx hb hr (fun t ht hW => ⟨(-1), rfl, rfl, ht⟩) (fun _ h => by cases h) dX2_item_30
  · refine lv_iload_n hx hb dX2_item_4 rfl (lv_at hl 2 rfl) ?_
    refine lv_aload_n hx hb dX2_item_5 rfl (lv_at hl 0 rfl) ?_
    refine lv_iload_n hx hb dX2_item_6 rfl (lv_at hl 1 rfl) ?_
    refine vp_callSi (va_Run.run (va_runV (As := [.int v]) (rest := [.int i]) ⟨hx, hb, hml, hown, hts⟩ (c_Rows_count l dC dI cI h0 h1 h2 room n f hn v) (cwV 1 hts gX2_item_X2_count rfl rfl rfl (by decide +kernel) ⟨Nat.le_of_ble_eq_true rfl, Nat.le_of_ble_eq_true rfl⟩) (rP_preV hKK (hP.sub (ws' := [(h0, .inr (2, [.int room, .ref h1, .ref h2])), (h1, .inl (cI, n, .inl f))]) [0, 1] rfl) (va_recv hKK.1 hP (ci := 2) (q0 := 0) rfl rfl)) rfl rfl hl.1 rfl (lv_room (Nat.le_of_ble_eq_true rfl)) dX2_item_7 ⟨Nat.zero_le _, Nat.zero_le _⟩)) (fun r_2 hr_2 => ?_)
    obtain rfl : r_2 = 0 := by rcases hr_2 with ⟨a, b, e⟩ | ⟨e, _⟩ <;> rw [e]; exact hf _
    refine lv_icmp_ge (tgt := 29) hx hb dX2_item_10 (by decide) (fun c_3 => ?_) (fun c_3 => ?_)
    · refine lv_iconst (v := (-1)) hx hb dX2_item_29 (by decide) ?_
      exact W.iret (v := (-1)) hx hb hr (fun t ht hW => ⟨(-1), rfl, rfl, ht⟩) (fun _ h => by cases h) dX2_item_30
    · exact absurd (Int32.not_lt.mp c_1) c_3
theorem iX5_isWork_X5 : ∀ w ∈ u_ws RX5 TX5 5, w ∈ wsX5_isWork := by decide +kernel
set_option maxHeartbeats 4000000 in
set_option maxRecDepth 100000 in
/-- isWork -/
theorem c_isWork (l : Launch) (dC : Nat → ClassId) (dI : Nat → Nat → Nat) (cI : ClassId) (x wa sh po di : Nat) (wc v : Int32) : Met l yX5_isWork wsX5_isWork ({ frames := 0, cells := 0, slots := 0, locals := 0 }) (rP dC dI cI [.ref x, .int v] [(x, .inr (5, [.ref wa, .int wc, .ref sh, .ref po, .ref di]))]) (vp_Si (fun r => (r = 1 ∧ ¬ v < 0 ∧ ¬ wc ≤ v) ∨ (r = 0 ∧ (v < 0 ∨ wc ≤ v)))) 0 0 (fun _ => False) := by
  refine Met.ofW (cc := cX5_isWork) (maxL := 2) (ret := (some .boolean)) (by decide) rfl ?_
  intro p e s m args below meth c s₁ B hml hv
  obtain ⟨rfl, hP, hKK⟩ := hv
  have hx := B.exec
  have hb := B.bytes
  have hr := B.returns
  have hts := atoms_spec (ws := wsX5_isWork) B.pre
  have hown : s.vm.findClass RX5 = some m.cls := findClass_of_methodNamed B.named
  have hlocks := B.notSynchronized
  have hP : va_P (dC, dI) vwCl [(x, .inr (5, [.ref wa, .int wc, .ref sh, .ref po, .ref di]))] s.heap := hP
  have hl := lv_entry ([.ref x, .int v]) (n := 2) (Nat.le_of_ble_eq_true rfl)
  rw [lg_entry_eq]
  generalize (lg_sl ([.ref x, .int v]) ++ List.replicate (2 - (lg_sl ([.ref x, .int v])).length) Slot.unset).toArray = ls at hl ⊢
  have hl : lv_has ls 2 [(0, .ref x), (1, .int v)] := hl
  refine lv_iload_n hx hb dX5_isWork_0 rfl (lv_at hl 1 rfl) ?_
  refine lv_if_lt (tgt := 16) hx hb dX5_isWork_1 (by decide) (fun c_1 => ?_) (fun c_1 => ?_)
  · refine lv_iconst (v := 0) hx hb dX5_isWork_16 (by decide) ?_
    exact W.zret (v := 0) (ty := .boolean) hx hb hr (by rfl) (fun t ht hW => ⟨0, rfl, by simp [c_1], ht⟩) (fun _ h => by cases h) dX5_isWork_17
  · refine lv_iload_n hx hb dX5_isWork_4 rfl (lv_at hl 1 rfl) ?_
    refine lv_aload_n hx hb dX5_isWork_5 rfl (lv_at hl 0 rfl) ?_
    refine va_get (D := (dC, dI)) (ci := 5) (v := .int wc) (C := RX5) (T := TX5) (N := 5) hx hb hts iX5_isWork_X5 hown hKK.1 hP 0 rfl rfl 1 (by decide) (hts (.fieldLink RX5 39 "LendThreads" "workCount" "I") (by decide +kernel)) (fun _ h9 => h9) rfl dX5_isWork_6 ?_
    refine lv_icmp_ge (tgt := 16) hx hb dX5_isWork_9 (by decide) (fun c_2 => ?_) (fun c_2 => ?_)
    · refine lv_iconst (v := 0) hx hb dX5_isWork_16 (by decide) ?_
      exact W.zret (v := 0) (ty := .boolean) hx hb hr (by rfl) (fun t ht hW => ⟨0, rfl, by simp [c_1, c_2], ht⟩) (fun _ h => by cases h) dX5_isWork_17
    · refine lv_iconst (v := 1) hx hb dX5_isWork_12 (by decide) ?_
      refine lv_goto (tgt := 17) hx hb dX5_isWork_13 (by decide) ?_
      exact W.zret (v := 1) (ty := .boolean) hx hb hr (by rfl) (fun t ht hW => ⟨1, rfl, by simp [c_1, c_2], ht⟩) (fun _ h => by cases h) dX5_isWork_17
set_option maxHeartbeats 4000000 in
set_option maxRecDepth 100000 in
/-- find, no works -/
theorem c_find0 (l : Launch) (dC : Nat → ClassId) (dI : Nat → Nat → Nat) (cI : ClassId) (x wa sh po di : Nat) (v : Int32) : Met l yX5_find wsX5_find ({ frames := 1, cells := 0, slots := 0, locals := 21 }) (rP dC dI cI [.ref x, .int v] [(x, .inr (5, [.ref wa, .int 0, .ref sh, .ref po, .ref di]))]) (va_Sq (fun r => r = none)) 0 0 (fun _ => False) := by
  refine Met.ofW (cc := cX5_find) (maxL := 2) (ret := (some (.object "LendThreads$Work"))) (by decide) rfl ?_
  intro p e s m args below meth c s₁ B hml hv
  obtain ⟨rfl, hP, hKK⟩ := hv
  have hx := B.exec
  have hb := B.bytes
  have hr := B.returns
  have hts := atoms_spec (ws := wsX5_find) B.pre
  have hown : s.vm.findClass RX5 = some m.cls := findClass_of_methodNamed B.named
  have hlocks := B.notSynchronized
  have hP : va_P (dC, dI) vwCl [(x, .inr (5, [.ref wa, .int 0, .ref sh, .ref po, .ref di]))] s.heap := hP
  have hl := lv_entry ([.ref x, .int v]) (n := 2) (Nat.le_of_ble_eq_true rfl)
  rw [lg_entry_eq]
  generalize (lg_sl ([.ref x, .int v]) ++ List.replicate (2 - (lg_sl ([.ref x, .int v])).length) Slot.unset).toArray = ls at hl ⊢
  have hl : lv_has ls 2 [(0, .ref x), (1, .int v)] := hl
  refine lv_aload_n hx hb dX5_find_0 rfl (lv_at hl 0 rfl) ?_
  refine lv_iload_n hx hb dX5_find_1 rfl (lv_at hl 1 rfl) ?_
  refine vp_callSi (va_Run.run (va_runV (As := [.int v]) (rest := []) ⟨hx, hb, hml, hown, hts⟩ (c_isWork l dC dI cI x wa sh po di 0 v) (cwV 1 hts gX5_find_X5_isWork rfl rfl rfl (by decide +kernel) ⟨Nat.le_of_ble_eq_true rfl, Nat.le_of_ble_eq_true rfl⟩) (rP_preV hKK (hP.sub (ws' := [(x, .inr (5, [.ref wa, .int 0, .ref sh, .ref po, .ref di]))]) [0] rfl) (va_recv hKK.1 hP (ci := 5) (q0 := 0) rfl rfl)) rfl rfl hl.1 rfl (lv_room (Nat.le_of_ble_eq_true rfl)) dX5_find_2 ⟨Nat.zero_le _, Nat.zero_le _⟩)) (fun r_1 hr_1 => ?_)
  obtain rfl : r_1 = 0 := by rcases hr_1 with ⟨_, a, b⟩ | ⟨e, _⟩; exact absurd (Int32.not_lt.mp a) b; exact e
  refine lv_if_eq (tgt := 17) hx hb dX5_find_5 (by decide) (fun c_2 => ?_) (fun c_2 => ?_)
  · refine lv_null hx hb dX5_find_17 ?_
    exact W.aret (v := .null) hx hb hr (Or.inl ⟨_, rfl⟩) (Or.inl rfl) (fun t ht hW => ⟨none, rfl, rfl, ht⟩) (fun _ h => by cases h) dX5_find_18
  · exact absurd c_2 (by decide)
set_option maxHeartbeats 4000000 in
set_option maxRecDepth 100000 in
/-- wants, no works -/
theorem c_wants0 (l : Launch) (dC : Nat → ClassId) (dI : Nat → Nat → Nat) (cI : ClassId) (x wa sh po di : Nat) (a b z d : Int32) : Met l yX5_wants wsX5_wants ({ frames := 2, cells := 0, slots := 0, locals := 42 }) (rP dC dI cI [.ref x, .int a, .int b, .int z, .int d] [(x, .inr (5, [.ref wa, .int 0, .ref sh, .ref po, .ref di]))]) (vp_Si (fun r => r = -1)) 0 0 (fun _ => False) := by
  refine Met.ofW (cc := cX5_wants) (maxL := 6) (ret := (some .int)) (by decide) rfl ?_
  intro p e s m args below meth c s₁ B hml hv
  obtain ⟨rfl, hP, hKK⟩ := hv
  have hx := B.exec
  have hb := B.bytes
  have hr := B.returns
  have hts := atoms_spec (ws := wsX5_wants) B.pre
  have hown : s.vm.findClass RX5 = some m.cls := findClass_of_methodNamed B.named
  have hlocks := B.notSynchronized
  have hP : va_P (dC, dI) vwCl [(x, .inr (5, [.ref wa, .int 0, .ref sh, .ref po, .ref di]))] s.heap := hP
  have hl := lv_entry ([.ref x, .int a, .int b, .int z, .int d]) (n := 6) (Nat.le_of_ble_eq_true rfl)
  rw [lg_entry_eq]
  generalize (lg_sl ([.ref x, .int a, .int b, .int z, .int d]) ++ List.replicate (6 - (lg_sl ([.ref x, .int a, .int b, .int z, .int d])).length) Slot.unset).toArray = ls at hl ⊢
  have hl : lv_has ls 6 [(0, .ref x), (1, .int a), (2, .int b), (3, .int z), (4, .int d)] := hl
  refine lv_aload_n hx hb dX5_wants_0 rfl (lv_at hl 0 rfl) ?_
  refine lv_iload_n hx hb dX5_wants_1 rfl (lv_at hl 1 rfl) ?_
  refine va_csq (va_Run.run (va_runV (As := [.int a]) (rest := []) ⟨hx, hb, hml, hown, hts⟩ (c_find0 l dC dI cI x wa sh po di a) (cwV 1 hts gX5_wants_X5_find rfl rfl rfl (by decide +kernel) ⟨Nat.le_of_ble_eq_true rfl, Nat.le_of_ble_eq_true rfl⟩) (rP_preV hKK (hP.sub (ws' := [(x, .inr (5, [.ref wa, .int 0, .ref sh, .ref po, .ref di]))]) [0] rfl) (va_recv hKK.1 hP (ci := 5) (q0 := 0) rfl rfl)) rfl rfl hl.1 rfl (lv_room (Nat.le_of_ble_eq_true rfl)) dX5_wants_2 ⟨Nat.zero_le _, Nat.zero_le _⟩)) (fun r_1 hr_1 => ?_)
  subst hr_1
  refine W.eq (g2 := F0 m 5 ls [.null]) rfl ?_
  refine lv_astoreN (lv' := [(5, .null), (0, .ref x), (1, .int a), (2, .int b), (3, .int z), (4, .int d)]) hx hb dX5_wants_5 hl (by decide) rfl (fun ls hl => ?_)
  refine lv_aloadN hx hb dX5_wants_7 (lv_at hl 0 rfl) ?_
  refine lv_ifnullN (tgt := 21) hx hb dX5_wants_9 (by decide) ?_
  refine lv_iconst (v := (-1)) hx hb dX5_wants_21 (by decide) ?_
  exact W.iret (v := (-1)) hx hb hr (fun t ht hW => ⟨(-1), rfl, rfl, ht⟩) (fun _ h => by cases h) dX5_wants_22
set_option maxHeartbeats 4000000 in
set_option maxRecDepth 100000 in
/-- sends, no works -/
theorem c_sends0 (l : Launch) (dC : Nat → ClassId) (dI : Nat → Nat → Nat) (cI : ClassId) (x wa sh po di : Nat) (a b d : Int32) : Met l yX5_sends wsX5_sends ({ frames := 2, cells := 0, slots := 0, locals := 42 }) (rP dC dI cI [.ref x, .int a, .int b, .int d] [(x, .inr (5, [.ref wa, .int 0, .ref sh, .ref po, .ref di]))]) (vp_Si (fun r => r = -1)) 0 0 (fun _ => False) := by
  refine Met.ofW (cc := cX5_sends) (maxL := 5) (ret := (some .int)) (by decide) rfl ?_
  intro p e s m args below meth c s₁ B hml hv
  obtain ⟨rfl, hP, hKK⟩ := hv
  have hx := B.exec
  have hb := B.bytes
  have hr := B.returns
  have hts := atoms_spec (ws := wsX5_sends) B.pre
  have hown : s.vm.findClass RX5 = some m.cls := findClass_of_methodNamed B.named
  have hlocks := B.notSynchronized
  have hP : va_P (dC, dI) vwCl [(x, .inr (5, [.ref wa, .int 0, .ref sh, .ref po, .ref di]))] s.heap := hP
  have hl := lv_entry ([.ref x, .int a, .int b, .int d]) (n := 5) (Nat.le_of_ble_eq_true rfl)
  rw [lg_entry_eq]
  generalize (lg_sl ([.ref x, .int a, .int b, .int d]) ++ List.replicate (5 - (lg_sl ([.ref x, .int a, .int b, .int d])).length) Slot.unset).toArray = ls at hl ⊢
  have hl : lv_has ls 5 [(0, .ref x), (1, .int a), (2, .int b), (3, .int d)] := hl
  refine lv_aload_n hx hb dX5_sends_0 rfl (lv_at hl 0 rfl) ?_
  refine lv_iload_n hx hb dX5_sends_1 rfl (lv_at hl 1 rfl) ?_
  refine va_csq (va_Run.run (va_runV (As := [.int a]) (rest := []) ⟨hx, hb, hml, hown, hts⟩ (c_find0 l dC dI cI x wa sh po di a) (cwV 1 hts gX5_sends_X5_find rfl rfl rfl (by decide +kernel) ⟨Nat.le_of_ble_eq_true rfl, Nat.le_of_ble_eq_true rfl⟩) (rP_preV hKK (hP.sub (ws' := [(x, .inr (5, [.ref wa, .int 0, .ref sh, .ref po, .ref di]))]) [0] rfl) (va_recv hKK.1 hP (ci := 5) (q0 := 0) rfl rfl)) rfl rfl hl.1 rfl (lv_room (Nat.le_of_ble_eq_true rfl)) dX5_sends_2 ⟨Nat.zero_le _, Nat.zero_le _⟩)) (fun r_1 hr_1 => ?_)
  subst hr_1
  refine W.eq (g2 := F0 m 5 ls [.null]) rfl ?_
  refine lv_astoreN (lv' := [(4, .null), (0, .ref x), (1, .int a), (2, .int b), (3, .int d)]) hx hb dX5_sends_5 hl (by decide) rfl (fun ls hl => ?_)
  refine lv_aloadN hx hb dX5_sends_7 (lv_at hl 0 rfl) ?_
  refine lv_ifnullN (tgt := 21) hx hb dX5_sends_9 (by decide) ?_
  refine lv_iconst (v := (-1)) hx hb dX5_sends_21 (by decide) ?_
  exact W.iret (v := (-1)) hx hb hr (fun t ht hW => ⟨(-1), rfl, rfl, ht⟩) (fun _ h => by cases h) dX5_sends_22
set_option maxHeartbeats 4000000 in
set_option maxRecDepth 100000 in
/-- turn, no works -/
theorem c_turn0 (l : Launch) (dC : Nat → ClassId) (dI : Nat → Nat → Nat) (cI : ClassId) (x wa sh po di : Nat) (a : Int32) : Met l yX5_turn wsX5_turn ({ frames := 2, cells := 0, slots := 0, locals := 42 }) (rP dC dI cI [.ref x, .int a] [(x, .inr (5, [.ref wa, .int 0, .ref sh, .ref po, .ref di]))]) (vp_Si (fun r => r = 0)) 0 0 (fun _ => False) := by
  refine Met.ofW (cc := cX5_turn) (maxL := 3) (ret := (some .int)) (by decide) rfl ?_
  intro p e s m args below meth c s₁ B hml hv
  obtain ⟨rfl, hP, hKK⟩ := hv
  have hx := B.exec
  have hb := B.bytes
  have hr := B.returns
  have hts := atoms_spec (ws := wsX5_turn) B.pre
  have hown : s.vm.findClass RX5 = some m.cls := findClass_of_methodNamed B.named
  have hlocks := B.notSynchronized
  have hP : va_P (dC, dI) vwCl [(x, .inr (5, [.ref wa, .int 0, .ref sh, .ref po, .ref di]))] s.heap := hP
  have hl := lv_entry ([.ref x, .int a]) (n := 3) (Nat.le_of_ble_eq_true rfl)
  rw [lg_entry_eq]
  generalize (lg_sl ([.ref x, .int a]) ++ List.replicate (3 - (lg_sl ([.ref x, .int a])).length) Slot.unset).toArray = ls at hl ⊢
  have hl : lv_has ls 3 [(0, .ref x), (1, .int a)] := hl
  refine lv_aload_n hx hb dX5_turn_0 rfl (lv_at hl 0 rfl) ?_
  refine lv_iload_n hx hb dX5_turn_1 rfl (lv_at hl 1 rfl) ?_
  refine va_csq (va_Run.run (va_runV (As := [.int a]) (rest := []) ⟨hx, hb, hml, hown, hts⟩ (c_find0 l dC dI cI x wa sh po di a) (cwV 1 hts gX5_turn_X5_find rfl rfl rfl (by decide +kernel) ⟨Nat.le_of_ble_eq_true rfl, Nat.le_of_ble_eq_true rfl⟩) (rP_preV hKK (hP.sub (ws' := [(x, .inr (5, [.ref wa, .int 0, .ref sh, .ref po, .ref di]))]) [0] rfl) (va_recv hKK.1 hP (ci := 5) (q0 := 0) rfl rfl)) rfl rfl hl.1 rfl (lv_room (Nat.le_of_ble_eq_true rfl)) dX5_turn_2 ⟨Nat.zero_le _, Nat.zero_le _⟩)) (fun r_1 hr_1 => ?_)
  subst hr_1
  refine W.eq (g2 := F0 m 5 ls [.null]) rfl ?_
  refine lv_astore_nN (lv' := [(2, .null), (0, .ref x), (1, .int a)]) hx hb dX5_turn_5 rfl hl (by decide) rfl (fun ls hl => ?_)
  refine lv_aload_nN hx hb dX5_turn_6 rfl (lv_at hl 0 rfl) ?_
  refine lv_ifnonnullN hx hb dX5_turn_7 ?_
  refine lv_iconst (v := 0) hx hb dX5_turn_10 (by decide) ?_
  refine lv_goto (tgt := 19) hx hb dX5_turn_11 (by decide) ?_
  exact W.iret (v := 0) hx hb hr (fun t ht hW => ⟨0, rfl, rfl, ht⟩) (fun _ h => by cases h) dX5_turn_19
set_option maxHeartbeats 4000000 in
set_option maxRecDepth 100000 in
/-- interrupt, no works -/
theorem c_interrupt0 (l : Launch) (dC : Nat → ClassId) (dI : Nat → Nat → Nat) (cI : ClassId) (x wa sh po di : Nat) (a : Int32) : Met l yX5_interrupt wsX5_interrupt ({ frames := 2, cells := 0, slots := 0, locals := 42 }) (rP dC dI cI [.ref x, .int a] [(x, .inr (5, [.ref wa, .int 0, .ref sh, .ref po, .ref di]))]) (vp_Si (fun r => r = -1)) 0 0 (fun _ => False) := by
  refine Met.ofW (cc := cX5_interrupt) (maxL := 3) (ret := (some .int)) (by decide) rfl ?_
  intro p e s m args below meth c s₁ B hml hv
  obtain ⟨rfl, hP, hKK⟩ := hv
  have hx := B.exec
  have hb := B.bytes
  have hr := B.returns
  have hts := atoms_spec (ws := wsX5_interrupt) B.pre
  have hown : s.vm.findClass RX5 = some m.cls := findClass_of_methodNamed B.named
  have hlocks := B.notSynchronized
  have hP : va_P (dC, dI) vwCl [(x, .inr (5, [.ref wa, .int 0, .ref sh, .ref po, .ref di]))] s.heap := hP
  have hl := lv_entry ([.ref x, .int a]) (n := 3) (Nat.le_of_ble_eq_true rfl)
  rw [lg_entry_eq]
  generalize (lg_sl ([.ref x, .int a]) ++ List.replicate (3 - (lg_sl ([.ref x, .int a])).length) Slot.unset).toArray = ls at hl ⊢
  have hl : lv_has ls 3 [(0, .ref x), (1, .int a)] := hl
  refine lv_aload_n hx hb dX5_interrupt_0 rfl (lv_at hl 0 rfl) ?_
  refine lv_iload_n hx hb dX5_interrupt_1 rfl (lv_at hl 1 rfl) ?_
  refine va_csq (va_Run.run (va_runV (As := [.int a]) (rest := []) ⟨hx, hb, hml, hown, hts⟩ (c_find0 l dC dI cI x wa sh po di a) (cwV 1 hts gX5_interrupt_X5_find rfl rfl rfl (by decide +kernel) ⟨Nat.le_of_ble_eq_true rfl, Nat.le_of_ble_eq_true rfl⟩) (rP_preV hKK (hP.sub (ws' := [(x, .inr (5, [.ref wa, .int 0, .ref sh, .ref po, .ref di]))]) [0] rfl) (va_recv hKK.1 hP (ci := 5) (q0 := 0) rfl rfl)) rfl rfl hl.1 rfl (lv_room (Nat.le_of_ble_eq_true rfl)) dX5_interrupt_2 ⟨Nat.zero_le _, Nat.zero_le _⟩)) (fun r_1 hr_1 => ?_)
  subst hr_1
  refine W.eq (g2 := F0 m 5 ls [.null]) rfl ?_
  refine lv_astore_nN (lv' := [(2, .null), (0, .ref x), (1, .int a)]) hx hb dX5_interrupt_5 rfl hl (by decide) rfl (fun ls hl => ?_)
  refine lv_aload_nN hx hb dX5_interrupt_6 rfl (lv_at hl 0 rfl) ?_
  refine lv_ifnonnullN hx hb dX5_interrupt_7 ?_
  refine lv_iconst (v := (-1)) hx hb dX5_interrupt_10 (by decide) ?_
  exact W.iret (v := (-1)) hx hb hr (fun t ht hW => ⟨(-1), rfl, rfl, ht⟩) (fun _ h => by cases h) dX5_interrupt_11
set_option maxHeartbeats 4000000 in
set_option maxRecDepth 100000 in
/-- again, no works -/
theorem c_again0 (l : Launch) (dC : Nat → ClassId) (dI : Nat → Nat → Nat) (cI : ClassId) (x wa sh po di : Nat) (a : Int32) : Met l yX5_again wsX5_again ({ frames := 2, cells := 0, slots := 0, locals := 42 }) (rP dC dI cI [.ref x, .int a] [(x, .inr (5, [.ref wa, .int 0, .ref sh, .ref po, .ref di]))]) (vp_Si (fun r => r = -1)) 0 0 (fun _ => False) := by
  refine Met.ofW (cc := cX5_again) (maxL := 3) (ret := (some .int)) (by decide) rfl ?_
  intro p e s m args below meth c s₁ B hml hv
  obtain ⟨rfl, hP, hKK⟩ := hv
  have hx := B.exec
  have hb := B.bytes
  have hr := B.returns
  have hts := atoms_spec (ws := wsX5_again) B.pre
  have hown : s.vm.findClass RX5 = some m.cls := findClass_of_methodNamed B.named
  have hlocks := B.notSynchronized
  have hP : va_P (dC, dI) vwCl [(x, .inr (5, [.ref wa, .int 0, .ref sh, .ref po, .ref di]))] s.heap := hP
  have hl := lv_entry ([.ref x, .int a]) (n := 3) (Nat.le_of_ble_eq_true rfl)
  rw [lg_entry_eq]
  generalize (lg_sl ([.ref x, .int a]) ++ List.replicate (3 - (lg_sl ([.ref x, .int a])).length) Slot.unset).toArray = ls at hl ⊢
  have hl : lv_has ls 3 [(0, .ref x), (1, .int a)] := hl
  refine lv_aload_n hx hb dX5_again_0 rfl (lv_at hl 0 rfl) ?_
  refine lv_iload_n hx hb dX5_again_1 rfl (lv_at hl 1 rfl) ?_
  refine va_csq (va_Run.run (va_runV (As := [.int a]) (rest := []) ⟨hx, hb, hml, hown, hts⟩ (c_find0 l dC dI cI x wa sh po di a) (cwV 1 hts gX5_again_X5_find rfl rfl rfl (by decide +kernel) ⟨Nat.le_of_ble_eq_true rfl, Nat.le_of_ble_eq_true rfl⟩) (rP_preV hKK (hP.sub (ws' := [(x, .inr (5, [.ref wa, .int 0, .ref sh, .ref po, .ref di]))]) [0] rfl) (va_recv hKK.1 hP (ci := 5) (q0 := 0) rfl rfl)) rfl rfl hl.1 rfl (lv_room (Nat.le_of_ble_eq_true rfl)) dX5_again_2 ⟨Nat.zero_le _, Nat.zero_le _⟩)) (fun r_1 hr_1 => ?_)
  subst hr_1
  refine W.eq (g2 := F0 m 5 ls [.null]) rfl ?_
  refine lv_astore_nN (lv' := [(2, .null), (0, .ref x), (1, .int a)]) hx hb dX5_again_5 rfl hl (by decide) rfl (fun ls hl => ?_)
  refine lv_aload_nN hx hb dX5_again_6 rfl (lv_at hl 0 rfl) ?_
  refine lv_ifnonnullN hx hb dX5_again_7 ?_
  refine lv_iconst (v := (-1)) hx hb dX5_again_10 (by decide) ?_
  exact W.iret (v := (-1)) hx hb hr (fun t ht hW => ⟨(-1), rfl, rfl, ht⟩) (fun _ h => by cases h) dX5_again_11
set_option maxHeartbeats 4000000 in
set_option maxRecDepth 100000 in
/-- state, no works -/
theorem c_state0 (l : Launch) (dC : Nat → ClassId) (dI : Nat → Nat → Nat) (cI : ClassId) (x wa sh po di : Nat) (a b : Int32) : Met l yX5_state wsX5_state ({ frames := 2, cells := 0, slots := 0, locals := 42 }) (rP dC dI cI [.ref x, .int a, .int b] [(x, .inr (5, [.ref wa, .int 0, .ref sh, .ref po, .ref di]))]) (vp_Si (fun r => r = -1)) 0 0 (fun _ => False) := by
  refine Met.ofW (cc := cX5_state) (maxL := 4) (ret := (some .int)) (by decide) rfl ?_
  intro p e s m args below meth c s₁ B hml hv
  obtain ⟨rfl, hP, hKK⟩ := hv
  have hx := B.exec
  have hb := B.bytes
  have hr := B.returns
  have hts := atoms_spec (ws := wsX5_state) B.pre
  have hown : s.vm.findClass RX5 = some m.cls := findClass_of_methodNamed B.named
  have hlocks := B.notSynchronized
  have hP : va_P (dC, dI) vwCl [(x, .inr (5, [.ref wa, .int 0, .ref sh, .ref po, .ref di]))] s.heap := hP
  have hl := lv_entry ([.ref x, .int a, .int b]) (n := 4) (Nat.le_of_ble_eq_true rfl)
  rw [lg_entry_eq]
  generalize (lg_sl ([.ref x, .int a, .int b]) ++ List.replicate (4 - (lg_sl ([.ref x, .int a, .int b])).length) Slot.unset).toArray = ls at hl ⊢
  have hl : lv_has ls 4 [(0, .ref x), (1, .int a), (2, .int b)] := hl
  refine lv_aload_n hx hb dX5_state_0 rfl (lv_at hl 0 rfl) ?_
  refine lv_iload_n hx hb dX5_state_1 rfl (lv_at hl 1 rfl) ?_
  refine va_csq (va_Run.run (va_runV (As := [.int a]) (rest := []) ⟨hx, hb, hml, hown, hts⟩ (c_find0 l dC dI cI x wa sh po di a) (cwV 1 hts gX5_state_X5_find rfl rfl rfl (by decide +kernel) ⟨Nat.le_of_ble_eq_true rfl, Nat.le_of_ble_eq_true rfl⟩) (rP_preV hKK (hP.sub (ws' := [(x, .inr (5, [.ref wa, .int 0, .ref sh, .ref po, .ref di]))]) [0] rfl) (va_recv hKK.1 hP (ci := 5) (q0 := 0) rfl rfl)) rfl rfl hl.1 rfl (lv_room (Nat.le_of_ble_eq_true rfl)) dX5_state_2 ⟨Nat.zero_le _, Nat.zero_le _⟩)) (fun r_1 hr_1 => ?_)
  subst hr_1
  refine W.eq (g2 := F0 m 5 ls [.null]) rfl ?_
  refine lv_astore_nN (lv' := [(3, .null), (0, .ref x), (1, .int a), (2, .int b)]) hx hb dX5_state_5 rfl hl (by decide) rfl (fun ls hl => ?_)
  refine lv_aload_nN hx hb dX5_state_6 rfl (lv_at hl 0 rfl) ?_
  refine lv_ifnonnullN hx hb dX5_state_7 ?_
  refine lv_iconst (v := (-1)) hx hb dX5_state_10 (by decide) ?_
  exact W.iret (v := (-1)) hx hb hr (fun t ht hW => ⟨(-1), rfl, rfl, ht⟩) (fun _ h => by cases h) dX5_state_11
set_option maxHeartbeats 4000000 in
set_option maxRecDepth 100000 in
/-- mail, no works -/
theorem c_mail0 (l : Launch) (dC : Nat → ClassId) (dI : Nat → Nat → Nat) (cI : ClassId) (x wa sh po di : Nat) (a b : Int32) : Met l yX5_mail wsX5_mail ({ frames := 2, cells := 0, slots := 0, locals := 42 }) (rP dC dI cI [.ref x, .int a, .int b] [(x, .inr (5, [.ref wa, .int 0, .ref sh, .ref po, .ref di]))]) (vp_Si (fun r => r = -2)) 0 0 (fun _ => False) := by
  refine Met.ofW (cc := cX5_mail) (maxL := 3) (ret := (some .int)) (by decide) rfl ?_
  intro p e s m args below meth c s₁ B hml hv
  obtain ⟨rfl, hP, hKK⟩ := hv
  have hx := B.exec
  have hb := B.bytes
  have hr := B.returns
  have hts := atoms_spec (ws := wsX5_mail) B.pre
  have hown : s.vm.findClass RX5 = some m.cls := findClass_of_methodNamed B.named
  have hlocks := B.notSynchronized
  have hP : va_P (dC, dI) vwCl [(x, .inr (5, [.ref wa, .int 0, .ref sh, .ref po, .ref di]))] s.heap := hP
  have hl := lv_entry ([.ref x, .int a, .int b]) (n := 3) (Nat.le_of_ble_eq_true rfl)
  rw [lg_entry_eq]
  generalize (lg_sl ([.ref x, .int a, .int b]) ++ List.replicate (3 - (lg_sl ([.ref x, .int a, .int b])).length) Slot.unset).toArray = ls at hl ⊢
  have hl : lv_has ls 3 [(0, .ref x), (1, .int a), (2, .int b)] := hl
  refine lv_aload_n hx hb dX5_mail_0 rfl (lv_at hl 0 rfl) ?_
  refine lv_iload_n hx hb dX5_mail_1 rfl (lv_at hl 1 rfl) ?_
  refine va_csq (va_Run.run (va_runV (As := [.int a]) (rest := []) ⟨hx, hb, hml, hown, hts⟩ (c_find0 l dC dI cI x wa sh po di a) (cwV 1 hts gX5_mail_X5_find rfl rfl rfl (by decide +kernel) ⟨Nat.le_of_ble_eq_true rfl, Nat.le_of_ble_eq_true rfl⟩) (rP_preV hKK (hP.sub (ws' := [(x, .inr (5, [.ref wa, .int 0, .ref sh, .ref po, .ref di]))]) [0] rfl) (va_recv hKK.1 hP (ci := 5) (q0 := 0) rfl rfl)) rfl rfl hl.1 rfl (lv_room (Nat.le_of_ble_eq_true rfl)) dX5_mail_2 ⟨Nat.zero_le _, Nat.zero_le _⟩)) (fun r_1 hr_1 => ?_)
  subst hr_1
  refine W.eq (g2 := F0 m 5 ls [.null]) rfl ?_
  refine lv_ifnullN (tgt := 17) hx hb dX5_mail_5 (by decide) ?_
  refine lv_bipush (v := (-2)) hx hb dX5_mail_17 (by decide) ?_
  exact W.iret (v := (-2)) hx hb hr (fun t ht hW => ⟨(-2), rfl, rfl, ht⟩) (fun _ h => by cases h) dX5_mail_19
theorem iX5_run_X5 : ∀ w ∈ u_ws RX5 TX5 5, w ∈ wsX5_run := by decide +kernel
set_option maxHeartbeats 4000000 in
set_option maxRecDepth 100000 in
/-- run, no works -/
theorem c_run0 (l : Launch) (dC : Nat → ClassId) (dI : Nat → Nat → Nat) (cI : ClassId) (x wa sh po di : Nat) : Met l yX5_run wsX5_run ({ frames := 0, cells := 0, slots := 0, locals := 0 }) (rP dC dI cI [.ref x] [(x, .inr (5, [.ref wa, .int 0, .ref sh, .ref po, .ref di]))]) (vp_Si (fun r => r = 0)) 0 0 (fun _ => False) := by
  refine Met.ofW (cc := cX5_run) (maxL := 6) (ret := (some .int)) (by decide) rfl ?_
  intro p e s m args below meth c s₁ B hml hv
  obtain ⟨rfl, hP, hKK⟩ := hv
  have hx := B.exec
  have hb := B.bytes
  have hr := B.returns
  have hts := atoms_spec (ws := wsX5_run) B.pre
  have hown : s.vm.findClass RX5 = some m.cls := findClass_of_methodNamed B.named
  have hlocks := B.notSynchronized
  have hP : va_P (dC, dI) vwCl [(x, .inr (5, [.ref wa, .int 0, .ref sh, .ref po, .ref di]))] s.heap := hP
  have hl := lv_entry ([.ref x]) (n := 6) (Nat.le_of_ble_eq_true rfl)
  rw [lg_entry_eq]
  generalize (lg_sl ([.ref x]) ++ List.replicate (6 - (lg_sl ([.ref x])).length) Slot.unset).toArray = ls at hl ⊢
  have hl : lv_has ls 6 [(0, .ref x)] := hl
  refine lv_iconst (v := 0) hx hb dX5_run_0 (by decide) ?_
  refine lv_istore_n (lv' := [(1, .int 0), (0, .ref x)]) hx hb dX5_run_1 rfl hl (by decide) rfl (fun ls hl => ?_)
  refine lv_iconst (v := 1) hx hb dX5_run_2 (by decide) ?_
  refine lv_istore_n (lv' := [(2, .int 1), (1, .int 0), (0, .ref x)]) hx hb dX5_run_3 rfl hl (by decide) rfl (fun ls hl => ?_)
  refine lv_iconst (v := 0) hx hb dX5_run_4 (by decide) ?_
  refine lv_istore_n (lv' := [(3, .int 0), (2, .int 1), (1, .int 0), (0, .ref x)]) hx hb dX5_run_5 rfl hl (by decide) rfl (fun ls hl => ?_)
  refine lv_iload_n hx hb dX5_run_6 rfl (lv_at hl 1 rfl) ?_
  refine lv_if_eq (tgt := 92) hx hb dX5_run_7 (by decide) (fun c_1 => ?_) (fun c_1 => ?_)
  · exact absurd c_1 (by decide)
  · refine lv_iload_n hx hb dX5_run_10 rfl (lv_at hl 0 rfl) ?_
    refine lv_ldc (v := 1000000) hx hb hown (hts (.constant RX5 91 1000000) (by decide +kernel)) dX5_run_11 ?_
    refine lv_icmp_ge (tgt := 92) hx hb dX5_run_13 (by decide) (fun c_2 => ?_) (fun c_2 => ?_)
    · exact absurd c_2 (by decide)
    · refine lv_iconst (v := 0) hx hb dX5_run_16 (by decide) ?_
      refine lv_istore_n (lv' := [(2, .int 0), (3, .int 0), (1, .int 0), (0, .ref x)]) hx hb dX5_run_17 rfl hl (by decide) rfl (fun ls hl => ?_)
      refine lv_iconst (v := 0) hx hb dX5_run_18 (by decide) ?_
      refine lv_istore (lv' := [(4, .int 0), (2, .int 0), (3, .int 0), (1, .int 0), (0, .ref x)]) hx hb dX5_run_19 hl (by decide) rfl (fun ls hl => ?_)
      refine lv_iload hx hb dX5_run_21 (lv_at hl 0 rfl) ?_
      refine lv_aload_n hx hb dX5_run_23 rfl (lv_at hl 4 rfl) ?_
      refine va_get (D := (dC, dI)) (ci := 5) (v := .int 0) (C := RX5) (T := TX5) (N := 5) hx hb hts iX5_run_X5 hown hKK.1 hP 0 rfl rfl 1 (by decide) (hts (.fieldLink RX5 39 "LendThreads" "workCount" "I") (by decide +kernel)) (fun _ h9 => h9) rfl dX5_run_24 ?_
      refine lv_icmp_ge (tgt := 86) hx hb dX5_run_27 (by decide) (fun c_3 => ?_) (fun c_3 => ?_)
      · refine lv_iinc (v := 1) (lv' := [(3, .int 1), (4, .int 0), (2, .int 0), (1, .int 0), (0, .ref x)]) hx hb dX5_run_86 hl (k := 2) rfl (by decide) (by decide) rfl (fun ls hl => ?_)
        refine lv_goto (tgt := 6) hx hb dX5_run_89 (by decide) ?_
        refine lv_iload_n hx hb dX5_run_6 rfl (lv_at hl 2 rfl) ?_
        refine lv_if_eq (tgt := 92) hx hb dX5_run_7 (by decide) (fun c_4 => ?_) (fun c_4 => ?_)
        · refine lv_iload_n hx hb dX5_run_92 rfl (lv_at hl 3 rfl) ?_
          exact W.iret (v := 0) hx hb hr (fun t ht hW => ⟨0, rfl, rfl, ht⟩) (fun _ h => by cases h) dX5_run_93
        · exact absurd c_4 (by decide)
      · exact absurd c_3 (by decide)
theorem iX5_ring_X5 : ∀ w ∈ u_ws RX5 TX5 5, w ∈ wsX5_ring := by decide +kernel
set_option maxHeartbeats 4000000 in
set_option maxRecDepth 100000 in
/-- ring, no works -/
theorem c_ring0 (l : Launch) (dC : Nat → ClassId) (dI : Nat → Nat → Nat) (cI : ClassId) (x wa sh po di : Nat) : Met l yX5_ring wsX5_ring ({ frames := 0, cells := 0, slots := 0, locals := 0 }) (rP dC dI cI [.ref x] [(x, .inr (5, [.ref wa, .int 0, .ref sh, .ref po, .ref di]))]) (vp_Si (fun r => r = -1)) 0 0 (fun _ => False) := by
  refine Met.ofW (cc := cX5_ring) (maxL := 3) (ret := (some .int)) (by decide) rfl ?_
  intro p e s m args below meth c s₁ B hml hv
  obtain ⟨rfl, hP, hKK⟩ := hv
  have hx := B.exec
  have hb := B.bytes
  have hr := B.returns
  have hts := atoms_spec (ws := wsX5_ring) B.pre
  have hown : s.vm.findClass RX5 = some m.cls := findClass_of_methodNamed B.named
  have hlocks := B.notSynchronized
  have hP : va_P (dC, dI) vwCl [(x, .inr (5, [.ref wa, .int 0, .ref sh, .ref po, .ref di]))] s.heap := hP
  have hl := lv_entry ([.ref x]) (n := 3) (Nat.le_of_ble_eq_true rfl)
  rw [lg_entry_eq]
  generalize (lg_sl ([.ref x]) ++ List.replicate (3 - (lg_sl ([.ref x])).length) Slot.unset).toArray = ls at hl ⊢
  have hl : lv_has ls 3 [(0, .ref x)] := hl
  refine lv_iconst (v := 0) hx hb dX5_ring_0 (by decide) ?_
  refine lv_istore_n (lv' := [(1, .int 0), (0, .ref x)]) hx hb dX5_ring_1 rfl hl (by decide) rfl (fun ls hl => ?_)
  refine lv_iload_n hx hb dX5_ring_2 rfl (lv_at hl 0 rfl) ?_
  refine lv_aload_n hx hb dX5_ring_3 rfl (lv_at hl 1 rfl) ?_
  refine va_get (D := (dC, dI)) (ci := 5) (v := .int 0) (C := RX5) (T := TX5) (N := 5) hx hb hts iX5_ring_X5 hown hKK.1 hP 0 rfl rfl 1 (by decide) (hts (.fieldLink RX5 39 "LendThreads" "workCount" "I") (by decide +kernel)) (fun _ h9 => h9) rfl dX5_ring_4 ?_
  refine lv_icmp_ge (tgt := 40) hx hb dX5_ring_7 (by decide) (fun c_1 => ?_) (fun c_1 => ?_)
  · refine lv_iconst (v := (-1)) hx hb dX5_ring_40 (by decide) ?_
    exact W.iret (v := (-1)) hx hb hr (fun t ht hW => ⟨(-1), rfl, rfl, ht⟩) (fun _ h => by cases h) dX5_ring_41
  · exact absurd c_1 (by decide)
theorem iX5_close_X5 : ∀ w ∈ u_ws RX5 TX5 5, w ∈ wsX5_close := by decide +kernel
set_option maxHeartbeats 4000000 in
set_option maxRecDepth 100000 in
/-- close, no works -/
theorem c_close0 (l : Launch) (dC : Nat → ClassId) (dI : Nat → Nat → Nat) (cI : ClassId) (x wa sh po di : Nat) : Met l yX5_close wsX5_close ({ frames := 0, cells := 0, slots := 0, locals := 0 }) (rP dC dI cI [.ref x] [(x, .inr (5, [.ref wa, .int 0, .ref sh, .ref po, .ref di]))]) (vp_Si (fun r => r = 0)) 0 0 (fun _ => False) := by
  refine Met.ofW (cc := cX5_close) (maxL := 3) (ret := (some .int)) (by decide) rfl ?_
  intro p e s m args below meth c s₁ B hml hv
  obtain ⟨rfl, hP, hKK⟩ := hv
  have hx := B.exec
  have hb := B.bytes
  have hr := B.returns
  have hts := atoms_spec (ws := wsX5_close) B.pre
  have hown : s.vm.findClass RX5 = some m.cls := findClass_of_methodNamed B.named
  have hlocks := B.notSynchronized
  have hP : va_P (dC, dI) vwCl [(x, .inr (5, [.ref wa, .int 0, .ref sh, .ref po, .ref di]))] s.heap := hP
  have hl := lv_entry ([.ref x]) (n := 3) (Nat.le_of_ble_eq_true rfl)
  rw [lg_entry_eq]
  generalize (lg_sl ([.ref x]) ++ List.replicate (3 - (lg_sl ([.ref x])).length) Slot.unset).toArray = ls at hl ⊢
  have hl : lv_has ls 3 [(0, .ref x)] := hl
  refine lv_iconst (v := 0) hx hb dX5_close_0 (by decide) ?_
  refine lv_istore_n (lv' := [(1, .int 0), (0, .ref x)]) hx hb dX5_close_1 rfl hl (by decide) rfl (fun ls hl => ?_)
  refine lv_aload_n hx hb dX5_close_2 rfl (lv_at hl 1 rfl) ?_
  refine va_get (D := (dC, dI)) (ci := 5) (v := .int 0) (C := RX5) (T := TX5) (N := 5) hx hb hts iX5_close_X5 hown hKK.1 hP 0 rfl rfl 1 (by decide) (hts (.fieldLink RX5 39 "LendThreads" "workCount" "I") (by decide +kernel)) (fun _ h9 => h9) rfl dX5_close_3 ?_
  refine lv_iconst (v := 1) hx hb dX5_close_6 (by decide) ?_
  refine lv_isub hx hb dX5_close_7 ?_
  refine lv_topi (fun x_1 ex_1 => ?_)
  obtain rfl : x_1 = (-1) := by rw [ex_1]; decide
  refine lv_istore_n (lv' := [(2, .int (-1)), (1, .int 0), (0, .ref x)]) hx hb dX5_close_8 rfl hl (by decide) rfl (fun ls hl => ?_)
  refine lv_iload_n hx hb dX5_close_9 rfl (lv_at hl 0 rfl) ?_
  refine lv_if_lt (tgt := 45) hx hb dX5_close_10 (by decide) (fun c_2 => ?_) (fun c_2 => ?_)
  · refine lv_iload_n hx hb dX5_close_45 rfl (lv_at hl 1 rfl) ?_
    exact W.iret (v := 0) hx hb hr (fun t ht hW => ⟨0, rfl, rfl, ht⟩) (fun _ h => by cases h) dX5_close_46
  · exact absurd c_2 (by decide)
theorem iX5_has_X3 : ∀ w ∈ u_ws RX3 TX3 4, w ∈ wsX5_has := by decide +kernel
theorem iX5_has_X5 : ∀ w ∈ u_ws RX5 TX5 5, w ∈ wsX5_has := by decide +kernel
set_option maxHeartbeats 4000000 in
set_option maxRecDepth 100000 in
/-- has, none held -/
theorem c_has0 (l : Launch) (dC : Nat → ClassId) (dI : Nat → Nat → Nat) (cI : ClassId) (x wa sh po di : Nat) (va vw ho li : Nat) (f : Nat → Int32) (hf : ∀ j, j < 10 → f j = -1) (v : Int32) : Met l yX5_has wsX5_has ({ frames := 1, cells := 0, slots := 0, locals := 20 }) (rP dC dI cI [.ref x, .int v] [(x, .inr (5, [.ref wa, .int 0, .ref sh, .ref po, .ref di])), (sh, .inr (3, [.ref va, .ref vw, .ref ho, .ref li])), (ho, .inl (cI, 10, .inl f))]) (vp_Si (fun r => r = -1)) 0 0 (fun _ => False) := by
  refine Met.ofW (cc := cX5_has) (maxL := 2) (ret := (some .int)) (by decide) rfl ?_
  intro p e s m args below meth c s₁ B hml hv
  obtain ⟨rfl, hP, hKK⟩ := hv
  have hx := B.exec
  have hb := B.bytes
  have hr := B.returns
  have hts := atoms_spec (ws := wsX5_has) B.pre
  have hown : s.vm.findClass RX5 = some m.cls := findClass_of_methodNamed B.named
  have hlocks := B.notSynchronized
  have hP : va_P (dC, dI) vwCl [(x, .inr (5, [.ref wa, .int 0, .ref sh, .ref po, .ref di])), (sh, .inr (3, [.ref va, .ref vw, .ref ho, .ref li])), (ho, .inl (cI, 10, .inl f))] s.heap := hP
  have hl := lv_entry ([.ref x, .int v]) (n := 2) (Nat.le_of_ble_eq_true rfl)
  rw [lg_entry_eq]
  generalize (lg_sl ([.ref x, .int v]) ++ List.replicate (2 - (lg_sl ([.ref x, .int v])).length) Slot.unset).toArray = ls at hl ⊢
  have hl : lv_has ls 2 [(0, .ref x), (1, .int v)] := hl
  refine lv_iload_n hx hb dX5_has_0 rfl (lv_at hl 1 rfl) ?_
  refine vp_callSi (va_Run.run (va_runS (As := [.int v]) (rest := []) ⟨hx, hb, hml, hown, hts⟩ (c_isCopy l dC dI cI v) (va_cwS 1 hts gX5_has_X5_isCopy rfl rfl rfl (by decide +kernel) ⟨Nat.le_of_ble_eq_true rfl, Nat.le_of_ble_eq_true rfl⟩) (rP_preS hKK (hP.sub (ws' := []) [] rfl)) rfl rfl hl.1 rfl (lv_room (Nat.le_of_ble_eq_true rfl)) dX5_has_1 ⟨Nat.zero_le _, Nat.zero_le _⟩)) (fun r_1 hr_1 => ?_)
  refine lv_if_eq (tgt := 19) hx hb dX5_has_4 (by decide) (fun c_2 => ?_) (fun c_2 => ?_)
  · refine lv_iconst (v := (-1)) hx hb dX5_has_19 (by decide) ?_
    exact W.iret (v := (-1)) hx hb hr (fun t ht hW => ⟨(-1), rfl, rfl, ht⟩) (fun _ h => by cases h) dX5_has_20
  · refine lv_aload_n hx hb dX5_has_7 rfl (lv_at hl 0 rfl) ?_
    refine va_get (D := (dC, dI)) (ci := 5) (v := .ref sh) (C := RX5) (T := TX5) (N := 5) hx hb hts iX5_has_X5 hown hKK.1 hP 0 rfl rfl 2 (by decide) (hts (.fieldLink RX5 18 "LendThreads" "shelf" "LLendThreads$Shelf;") (by decide +kernel)) (fun _ h9 => h9) rfl dX5_has_8 ?_
    refine va_getN (D := (dC, dI)) (ci := 3) (v := .ref ho) (C := RX3) (T := TX3) (N := 4) hx hb hts iX5_has_X3 hown hKK.1 hP 1 rfl rfl 2 (by decide) (va_Nw.use rfl (hKK.2.2 (.fieldLinkNest RX5 127 RX3 "holders" "[I" RX5) (by decide +kernel))) (fun _ h9 => h9) rfl dX5_has_11 ?_
    refine lv_iload_n hx hb dX5_has_14 rfl (lv_at hl 1 rfl) ?_
    refine va_iald hx hb hKK.1 hP 2 0 rfl rfl (by rcases hr_1 with ⟨_, a, b⟩ | ⟨e, _⟩; exact bn_in (by decide) a b; exact absurd e c_2) dX5_has_15 ?_
    refine lv_topi (fun x_3 ex_3 => ?_)
    refine lv_goto (tgt := 20) hx hb dX5_has_16 (by decide) ?_
    exact W.iret (v := x_3) hx hb hr (fun t ht hW => ⟨x_3, rfl, by rw [ex_3]; exact hf _ (bn_lt (n := 10) (by rcases hr_1 with ⟨_, a, b⟩ | ⟨e, _⟩; exact bn_in (by decide) a b; exact absurd e c_2)), ht⟩) (fun _ h => by cases h) dX5_has_20
end
section
def cxN : String := "java/lang/IndexOutOfBoundsException"
def cxA : List Cond := vx_atS RX5 141 "java/lang/IndexOutOfBoundsException" ["java/lang/RuntimeException", "java/lang/Exception"]
/-- the words of the throw that aren't good ones -/
def cxB : List Cond := cxA.filter (fun w => !goodWord w)
def cxC : Cond → Bool
  | .castable _ _ => true
  | .declares _ => true
  | _ => false
theorem cxB_c : ∀ w ∈ cxB, cxC w = true := by decide +kernel
theorem cxB_t : ∀ w ∈ cxB, w.onTables = true := by decide +kernel
theorem cxB_l : ∀ w ∈ cxB, w ∈ lw_tbl := by decide +kernel
theorem cxB_x : Cond.castable cxN cxN ∈ cxB := by decide +kernel
def cxW (U : State) : Prop := ∀ w ∈ cxB, va_Nw w U
theorem cxW_warm {s U : State} (hW : s.WarmedH U.vm) (h : cxW s) : cxW U := by
  intro w hw
  have h1 := cxB_c w hw
  have h2 := h w hw
  cases w <;> first | exact va_Nw.warmC hW h2 | exact va_Nw.warmD hW h2 | cases h1
theorem cxW_same {u U : State} (e : u.vm = U.vm) (h : cxW u) : cxW U := fun w hw => va_Nw.same (cxB_t w hw) e (h w hw)
/-- what the throw takes as known: the text, Throwable's two statics, the castings -/
def cxE (n0 sa : Nat) (U : State) (H : Heap) : Prop := vk_R RX5 139 "no such copy" sa U ∧ vx_Zq Bundle.tN "UNASSIGNED_STACK" Bundle.steD (fun q => n0 ≤ q) U H ∧ vx_Zq Bundle.tN "SUPPRESSED_SENTINEL" Bundle.listD (fun q => n0 ≤ q) U H ∧ cxW U
theorem cxE.warm {n0 sa : Nat} {s U : State} {H : Heap} (hW : s.WarmedH U.vm) (h : cxE n0 sa s H) : cxE n0 sa U H := ⟨h.1.warm hW, h.2.1.moved hW.alike, h.2.2.1.moved hW.alike, cxW_warm hW h.2.2.2⟩
theorem cxE.calling {n0 sa : Nat} {U : State} {H : Heap} {g : JFrame} {mk : MethodId} {a : Array Value} (h : cxE n0 sa U H) : cxE n0 sa (U.calling g mk a) H := ⟨vk_R.same (u := U) (U := U.calling g mk a) rfl h.1, vx_Zq.moved (u := U) (U := U.calling g mk a) (Vm.Alike.refl U.vm) h.2.1, vx_Zq.moved (u := U) (U := U.calling g mk a) (Vm.Alike.refl U.vm) h.2.2.1, cxW_same (u := U) (U := U.calling g mk a) rfl h.2.2.2⟩
theorem cxE.kept {n0 sa : Nat} {U : State} {H H1 : Heap} (h : cxE n0 sa U H) (hq : ∀ a : Nat, a < H.size → ¬ n0 ≤ a → H1[a]? = H[a]?) : cxE n0 sa U H1 := ⟨h.1, h.2.1.kept hq, h.2.2.1.kept hq, h.2.2.2⟩
def cxP (dC : Nat → ClassId) (dI : Nat → Nat → Nat) (cI : ClassId) (n0 sa : Nat) (av : List Value) (ws : va_W) : Array Value → State → Prop := fun a U => rP dC dI cI av ws a U ∧ cxE n0 sa U U.heap
theorem cxP_preV {dC : Nat → ClassId} {dI : Nat → Nat → Nat} {cI : ClassId} {n0 sa : Nat} {av : List Value} {ws : va_W} {s : State} {H : Heap} {b : Addr} {C : String} (hK : kb dC dI cI s) (hP : va_P (dC, dI) vwCl ws H) (hE : cxE n0 sa s H) (hr : ∃ cellB : Cell, H[b]? = some cellB ∧ cellB.vm.isStatics = false ∧ s.vm.findClass C = some cellB.cls) : PreV s H C b (cxP dC dI cI n0 sa (.ref b :: av) ws) av :=
  ⟨fun a U g mk q => ⟨rP_blind a U g mk q.1, cxE.calling q.2⟩, hr, fun U hU hW => ⟨⟨rfl, by rw [hU]; exact hP, hK.warm hW⟩, by rw [hU]; exact hE.warm hW⟩⟩
theorem iX5_value_X3 : ∀ w ∈ u_ws RX3 TX3 4, w ∈ wsX5_value := by decide +kernel
theorem iX5_value_X5 : ∀ w ∈ u_ws RX5 TX5 5, w ∈ wsX5_value := by decide +kernel
theorem cx_good : ∀ w ∈ Cond.classLink RX5 137 "java/lang/IndexOutOfBoundsException" :: Cond.initialized "java/lang/IndexOutOfBoundsException" :: vx_atS RX5 141 "java/lang/IndexOutOfBoundsException" ["java/lang/RuntimeException", "java/lang/Exception"], vx_ot w = true := by decide +kernel
set_option maxHeartbeats 4000000 in
set_option maxRecDepth 100000 in
/-- value: the copy's value, or thrown -/
theorem c_value (l : Launch) (hst : l.stackTraces = false) (dC : Nat → ClassId) (dI : Nat → Nat → Nat) (cI : ClassId) (n0 sa : Nat) (x wa sh po di va vw ho li : Nat) (wc : Int32) (f : Nat → Int32) (v : Int32) : vx_Met l yX5_value wsX5_value ({ frames := 6, cells := 1, slots := 6, locals := 82 }) (cxP dC dI cI n0 sa [.ref x, .int v] [(x, .inr (5, [.ref wa, .int wc, .ref sh, .ref po, .ref di])), (sh, .inr (3, [.ref va, .ref vw, .ref ho, .ref li])), (va, .inl (cI, 10, .inl f))]) (va_Qi (fun r (_ : Unit) => ¬ v < 0 ∧ ¬ 10 ≤ v ∧ r = f v.toNatClampNeg) (fun _ _ => True) (fun _ => False)) (vx_X (fun _ : Unit => v < 0 ∨ 10 ≤ v) (fun E _ _ => E = cxN) (fun _ => False)) 1 6 (fun _ => False) := by
  refine vx_ofW (cc := cX5_value) (maxL := 2) (ret := (some .int)) (by decide) rfl ?_
  intro p e s m args below meth c s₁ B hml hout hv
  obtain ⟨⟨rfl, hP, hKK⟩, hE⟩ := hv
  have hx := B.exec
  have hb := B.bytes
  have hr := B.returns
  have hts := atoms_spec (ws := wsX5_value) B.pre
  have hown : s.vm.findClass RX5 = some m.cls := findClass_of_methodNamed B.named
  have hlocks := B.notSynchronized
  have hP : va_P (dC, dI) vwCl [(x, .inr (5, [.ref wa, .int wc, .ref sh, .ref po, .ref di])), (sh, .inr (3, [.ref va, .ref vw, .ref ho, .ref li])), (va, .inl (cI, 10, .inl f))] s.heap := hP
  have hl := lv_entry ([.ref x, .int v]) (n := 2) (Nat.le_of_ble_eq_true rfl)
  rw [lg_entry_eq]
  generalize (lg_sl ([.ref x, .int v]) ++ List.replicate (2 - (lg_sl ([.ref x, .int v])).length) Slot.unset).toArray = ls at hl ⊢
  have hl : lv_has ls 2 [(0, .ref x), (1, .int v)] := hl
  refine lv_iload_n hx hb dX5_value_0 rfl (lv_at hl 1 rfl) ?_
  refine vp_callSi (va_Run.run (va_runS (As := [.int v]) (rest := []) ⟨hx, hb, hml, hown, hts⟩ (c_isCopy l dC dI cI v) (va_cwS 1 hts gX5_value_X5_isCopy rfl rfl rfl (by decide +kernel) ⟨Nat.le_of_ble_eq_true rfl, Nat.le_of_ble_eq_true rfl⟩) (rP_preS hKK (hP.sub (ws' := []) [] rfl)) rfl rfl hl.1 rfl (lv_room (Nat.le_of_ble_eq_true rfl)) dX5_value_1 ⟨Nat.zero_le _, Nat.zero_le _⟩)) (fun r_1 hr_1 => ?_)
  refine lv_if_ne (tgt := 17) hx hb dX5_value_4 (by decide) (fun c_2 => ?_) (fun c_2 => ?_)
  · have hv2 : ¬ v < 0 ∧ ¬ 10 ≤ v := by
      rcases hr_1 with ⟨_, a, b⟩ | ⟨e, _⟩
      · exact ⟨a, b⟩
      · exact absurd e c_2
    refine lv_aload_n hx hb dX5_value_17 rfl (lv_at hl 0 rfl) ?_
    refine va_get (D := (dC, dI)) (ci := 5) (v := .ref sh) (C := RX5) (T := TX5) (N := 5) hx hb hts iX5_value_X5 hown hKK.1 hP 0 rfl rfl 2 (by decide) (hts (.fieldLink RX5 18 "LendThreads" "shelf" "LLendThreads$Shelf;") (by decide +kernel)) (fun _ h9 => h9) rfl dX5_value_18 ?_
    refine va_getN (D := (dC, dI)) (ci := 3) (v := .ref va) (C := RX3) (T := TX3) (N := 4) hx hb hts iX5_value_X3 hown hKK.1 hP 1 rfl rfl 0 (by decide) (va_Nw.use rfl (hKK.2.2 (.fieldLinkNest RX5 144 RX3 "values" "[I" RX5) (by decide +kernel))) (fun _ h9 => h9) rfl dX5_value_21 ?_
    refine lv_iload_n hx hb dX5_value_24 rfl (lv_at hl 1 rfl) ?_
    refine va_iald hx hb hKK.1 hP 2 0 rfl rfl (bn_in (by decide) hv2.1 hv2.2) dX5_value_25 ?_
    refine W.widen (k := 1) (n := 6) (by omega) (by omega) ?_
    exact vx_ret (W.iret (v := f v.toNatClampNeg) hx hb hr (fun t ht hW => ⟨⟨_, (), rfl, ⟨hv2.1, hv2.2, rfl⟩, trivial⟩, by rw [ht]; exact Nat.le_refl _, fun q _ _ => by rw [ht]⟩) (fun _ h => by cases h) dX5_value_26)
  · have hv2 : v < 0 ∨ 10 ≤ v := by
      rcases hr_1 with ⟨e, _⟩ | ⟨_, h⟩
      · exact absurd (e.symm.trans c_2) (by decide)
      · exact h
    refine vx_throwS (own := RX5) (cls := "java/lang/IndexOutOfBoundsException") (text := "no such copy") (names := ["java/lang/RuntimeException", "java/lang/Exception"]) (ik := 137) (is := 139) (ic := 141) (sa := sa) (A := fun q => n0 ≤ q) hx hb hst hown (by decide +kernel) (by decide +kernel) (hts _ (by decide +kernel)) (hts _ (by decide +kernel)) hE.1
      (vx_hat (B := cxB) (fun w h => hts w (List.mem_cons_of_mem _ (List.mem_append_right _ h))) (fun w h => h) (fun w h => va_Nw.use (cxB_t w h) (hE.2.2.2 w h)))
      cx_good hE.2.1 hE.2.2.1 va_S.rf (by rw [hml]; exact hl.1) dX5_value_7 dX5_value_10 dX5_value_11 dX5_value_13 dX5_value_16 (fun x hx => (hout x hx).elim) (Nat.le_of_ble_eq_true rfl) (Nat.le_of_ble_eq_true rfl) (Nat.le_of_ble_eq_true rfl) (Nat.le_of_ble_eq_true rfl) hlocks
      (fun t hal hsz hk => ⟨(), hv2, rfl, hsz, fun q h1 _ => hk q h1⟩) (fun _ h => by cases h) (Nat.le_refl _) (Nat.le_refl _)
/-- the law's own helper: what it takes -/
def cxV (dC : Nat → ClassId) (dI : Nat → Nat → Nat) (cI cJ : ClassId) (n0 sa : Nat) (av : List Value) (ws : va_W) (sz : Nat) : Array Value → State → Prop := fun a U => cxP dC dI cI n0 sa av ws a U ∧ va_K (dC, dI) vwCl [(cI, .int), (cJ, .long)] U ∧ U.heap.size = sz ∧ va_D (fun _ => True) ws
theorem cxV_preS {dC : Nat → ClassId} {dI : Nat → Nat → Nat} {cI cJ : ClassId} {n0 sa : Nat} {av : List Value} {ws : va_W} {s : State} {H : Heap} {A : Nat → Prop} (hK : kb dC dI cI s) (hKj : va_K (dC, dI) vwCl [(cI, .int), (cJ, .long)] s) (hP : va_P (dC, dI) vwCl ws H) (hD : va_D A ws) (hE : cxE n0 sa s H) : PreS s H (cxV dC dI cI cJ n0 sa av ws H.size) av :=
  ⟨fun a U g mk q => ⟨⟨rP_blind a U g mk q.1.1, cxE.calling q.1.2⟩, va_K.moved (u := U) (U := U.calling g mk a) (Vm.Alike.refl U.vm) q.2.1, q.2.2.1, q.2.2.2⟩, fun U hU hW => ⟨⟨⟨rfl, by rw [hU]; exact hP, hK.warm hW⟩, by rw [hU]; exact hE.warm hW⟩, va_K.moved hW.alike hKj, by rw [hU], hD.weaken (fun _ _ _ _ => trivial)⟩⟩
set_option maxHeartbeats 4000000 in
set_option maxRecDepth 100000 in
/-- the law's helper: 0 and the value laid into the row, or 1 -/
theorem c_lvalue (l : Launch) (hst : l.stackTraces = false) (dC : Nat → ClassId) (dI : Nat → Nat → Nat) (cI cJ : ClassId) (n0 sa : Nat) (sz : Nat) (x wa sh po di va vw ho li o : Nat) (wc : Int32) (f : Nat → Int32) (g9 : Nat → Int64) (v : Int32) : Met l yL_value wsL_value ({ frames := 7, cells := 1, slots := 6, locals := 103 }) (cxV dC dI cI cJ n0 sa [.ref x, .int v, .ref o] [(x, .inr (5, [.ref wa, .int wc, .ref sh, .ref po, .ref di])), (sh, .inr (3, [.ref va, .ref vw, .ref ho, .ref li])), (va, .inl (cI, 10, .inl f)), (o, .inl (cJ, 1, .inr (.inl g9)))] sz) (va_Qi (fun r (u : Nat → Int64) => (r = 0 ∧ (¬ v < 0 ∧ ¬ 10 ≤ v) ∧ u 0 = (f v.toNatClampNeg).toInt64) ∨ (r = 1 ∧ (v < 0 ∨ 10 ≤ v))) (fun u t => uB dC dI (va_A [(o, .inl (cJ, 1, .inr (.inl g9)))] sz) [(o, .inl (cJ, 1, .inr (.inl u)))] t) (va_A [(o, .inl (cJ, 1, .inr (.inl g9)))] sz)) 1 6 (va_A [(o, .inl (cJ, 1, .inr (.inl g9)))] sz) := by
  refine va_MetW (cc := cL_value) (maxL := 4) (ret := (some .int)) (hh := [(0, 9, 12, 13)]) (by decide) rfl ?_
  intro p e s m args below meth c s₁ B hml hv
  obtain ⟨⟨⟨rfl, hP, hKK⟩, hE⟩, hKj, hsz, hD0⟩ := hv
  have hx := B.exec
  have hb := B.bytes
  have hr := B.returns
  have hts := atoms_spec (ws := wsL_value) B.pre
  have hown : s.vm.findClass RL = some m.cls := findClass_of_methodNamed B.named
  have hlocks := B.notSynchronized
  have htab : c.exceptionTable.toList = [⟨0, 9, 12, 13⟩] := vx_table (x := yL_value) B (hts (.codeWith yL_value cL_value 4 (some .int) [(0, 9, 12, 13)]) List.mem_cons_self)
  subst hsz
  have hP : va_P (dC, dI) vwCl [(x, .inr (5, [.ref wa, .int wc, .ref sh, .ref po, .ref di])), (sh, .inr (3, [.ref va, .ref vw, .ref ho, .ref li])), (va, .inl (cI, 10, .inl f)), (o, .inl (cJ, 1, .inr (.inl g9)))] s.heap := hP
  have hPo := hP.sub (ws' := [(o, .inl (cJ, 1, .inr (.inl g9)))]) [3] rfl
  have hDo := (hD0.sub (ws' := [(o, .inl (cJ, 1, .inr (.inl g9)))]) [3] (by decide) rfl).self (sz := s.heap.size)
  generalize hAe : va_A [(o, .inl (cJ, 1, .inr (.inl g9)))] s.heap.size = A at hDo ⊢
  have hS : va_S A s.heap s.heap [] := va_S.rf
  have hl := lv_entry ([.ref x, .int v, .ref o]) (n := 4) (Nat.le_of_ble_eq_true rfl)
  rw [lg_entry_eq]
  generalize (lg_sl ([.ref x, .int v, .ref o]) ++ List.replicate (4 - (lg_sl ([.ref x, .int v, .ref o])).length) Slot.unset).toArray = ls at hl ⊢
  have hl : lv_has ls 4 [(0, .ref x), (1, .int v), (2, .ref o)] := hl
  refine lv_aload_n hx hb dL_value_0 rfl (lv_at hl 2 rfl) ?_
  refine lv_iconst (v := 0) hx hb dL_value_1 (by decide) ?_
  refine lv_aload_n hx hb dL_value_2 rfl (lv_at hl 0 rfl) ?_
  refine lv_iload_n hx hb dL_value_3 rfl (lv_at hl 1 rfl) ?_
  refine vx_calli (vx_runV (As := [.int v]) (rest := [.int 0, .ref o]) ⟨hx, hb, hml, hown, hts⟩ (c_value l hst dC dI cI n0 sa x wa sh po di va vw ho li wc f v) (cwV 1 hts gL_value_X5_value rfl rfl rfl (by decide +kernel) ⟨Nat.le_of_ble_eq_true rfl, Nat.le_of_ble_eq_true rfl⟩) (cxP_preV hKK (hP.sub [0, 1, 2] rfl) hE (va_recv hKK.1 hP (ci := 5) (q0 := 0) rfl rfl)) rfl rfl hl.1 rfl (lv_room (Nat.le_of_ble_eq_true rfl)) dL_value_4 ⟨Nat.le_of_ble_eq_true rfl, Nat.le_of_ble_eq_true rfl⟩) hS (fun _ _ h => h.elim) (fun _ h => h.elim) (fun _ _ h => h.elim) (fun E ce q9 u t H1 locs1 ht hal hpx hBX hz1 hk1 hS1 hce hcv hcl => ?_) (fun r u t H1 locs1 ht hal hw _ hz1 hk1 hS1 => ?_)
  · have hE9 : E = cxN := hBX
    subst hE9
    have hPo1 : va_P (dC, dI) vwCl [(o, .inl (cJ, 1, .inr (.inl g9)))] H1 := hPo.kept (fun k q hk => hk1 q.1 ((hPo k q hk).lt) (fun h => h))
    refine cx_catch (own := RL) (name := cxN) (E := cxN) hown ⟨0, 9, 12, 13⟩ htab (by decide) (by decide) (hts (.classLink RL 13 "java/lang/IndexOutOfBoundsException") (by decide +kernel)) (va_Nw.use rfl (hE.2.2.2 _ cxB_x)) hce hcv hcl ?_
    refine lv_astore_n (lv' := [(3, .ref q9), (0, .ref x), (1, .int v), (2, .ref o)]) hx hb dL_value_12 rfl hl (by decide) rfl (fun ls hl => ?_)
    refine lv_iconst (v := 1) hx hb dL_value_13 (by decide) ?_
    refine W.widen (k := 1) (n := 6) (by omega) (by omega) ?_
    exact W.iret (v := 1) hx hb hr (fun t ht hW => ⟨⟨1, g9, rfl, Or.inr ⟨rfl, hpx⟩, by rw [ht]; exact hPo1, hDo⟩, hS1.F ht⟩) hS1.2.2 dL_value_14
  · have hPo1 : va_P (dC, dI) vwCl [(o, .inl (cJ, 1, .inr (.inl g9)))] H1 := hPo.kept (fun k q hk => hk1 q.1 ((hPo k q hk).lt) (fun h => h))
    refine lv_i2l hx hb dL_value_7 rfl ?_
    refine va_last hx hb hKj hPo1 hDo hS1 0 1 rfl rfl (vp_in_iff.mpr (by decide)) dL_value_8 (fun H locs hP hD hS => ?_)
    refine lv_goto (tgt := 15) hx hb dL_value_9 (by decide) ?_
    refine lv_iconst (v := 0) hx hb dL_value_15 (by decide) ?_
    refine W.widen (k := 1) (n := 6) (by omega) (by omega) ?_
    exact W.iret (v := 0) hx hb hr (fun t ht hW => ⟨⟨0, vp_updL g9 (0 : Int32).toNatClampNeg r.toInt64, rfl, Or.inl ⟨rfl, ⟨hw.1, hw.2.1⟩, by rw [hw.2.2]; exact pk_uLs⟩, by rw [ht]; exact hP, hD⟩, hS.F ht⟩) hS.2.2 dL_value_16
end
section
/-! one memory a side: cell, place -/
abbrev Mem : Type := Nat → Nat → Int32
def up2 (M : Mem) (k j : Nat) (v : Int32) : Mem := va_up M k (upd (M k) j v)
/-- a world that has n cells, by their numbers -/
def cwl (n : Nat) (ad : Nat → Nat) (en : Nat → va_E) : va_W := (List.range n).map (fun k => (ad k, en k))
theorem cwl_get {n : Nat} {ad : Nat → Nat} {en : Nat → va_E} {k : Nat} (hk : k < n) : (cwl n ad en)[k]? = some (ad k, en k) := by
  simp [cwl, hk]
theorem cwl_len {n : Nat} {ad : Nat → Nat} {en : Nat → va_E} : (cwl n ad en).length = n := by simp [cwl]
theorem cwl_set {n : Nat} {ad : Nat → Nat} {en : Nat → va_E} {k : Nat} {e : va_E} (hk : k < n) : (cwl n ad en).set k (ad k, e) = cwl n ad (va_up en k e) := by
  apply List.ext_getElem?
  intro i
  by_cases h : i = k
  · subst h
    rw [List.getElem?_set_self (by rw [cwl_len]; exact hk), cwl_get hk, va_up_self]
  · rw [List.getElem?_set_ne (fun q => h q.symm)]
    by_cases hi : i < n
    · rw [cwl_get hi, cwl_get hi, va_up_ne _ _ h]
    · rw [List.getElem?_eq_none (by rw [cwl_len]; omega), List.getElem?_eq_none (by rw [cwl_len]; omega)]
/-- the cells are apart -/
def Inj (n : Nat) (ad : Nat → Nat) : Prop := ∀ i j, i < n → j < n → ad i = ad j → i = j
def Ac (n : Nat) (ad : Nat → Nat) : Nat → Prop := fun q => ∃ k, k < n ∧ q = ad k
theorem cwl_inv {n : Nat} {ad : Nat → Nat} {en : Nat → va_E} {k : Nat} {q : Nat × va_E} (h : (cwl n ad en)[k]? = some q) : k < n ∧ q = (ad k, en k) := by
  have hk : k < n := by
    have := (List.getElem?_eq_some_iff.mp h).1
    rw [cwl_len] at this
    exact this
  rw [cwl_get hk] at h
  exact ⟨hk, (Option.some.inj h).symm⟩
theorem cwl_D {n : Nat} {ad : Nat → Nat} (hI : Inj n ad) (en : Nat → va_E) : va_D (Ac n ad) (cwl n ad en) := by
  refine ⟨fun i j p q hi hj e => ?_, fun k q hk => ?_⟩
  · obtain ⟨h1, rfl⟩ := cwl_inv hi
    obtain ⟨h2, rfl⟩ := cwl_inv hj
    exact hI i j h1 h2 e
  · obtain ⟨h1, rfl⟩ := cwl_inv hk
    exact ⟨k, h1, rfl⟩
/-- Option, for places out of range, and for calls -/
def gd {α : Type} (b : Bool) (x : Option α) : Option α := match b with
  | true => x
  | false => none
theorem gd_some {α : Type} {b : Bool} {x : Option α} {y : α} (h : gd b x = some y) : b = true ∧ x = some y := by
  cases b
  · cases h
  · exact ⟨rfl, h⟩
def bi {α β : Type} (x : Option α) (f : α → Option β) : Option β := match x with
  | some a => f a
  | none => none
theorem bi_some {α β : Type} {x : Option α} {f : α → Option β} {y : β} (h : bi x f = some y) : ∃ a, x = some a ∧ f a = some y := by
  cases x with
  | none => cases h
  | some a => exact ⟨a, rfl, h⟩
def bm {β : Type} (M : Mem) (f : Mem → β) : β := f M
def inb (i : Int32) (n : Nat) : Bool := decide (0 ≤ i.toInt) && decide (i.toInt < n)
theorem inb_in {i : Int32} {n : Nat} (h : inb i n = true) : vp_in i n := by
  unfold inb at h
  rw [Bool.and_eq_true, decide_eq_true_eq, decide_eq_true_eq] at h
  exact vp_in_iff.mpr h
/-! the class's cells: 0 LendThreads, 1 works, 2 Shelf (3 values, 4 valuesWhenTaken, 5 holders, 6 lines: 7 counts, 8 items), 9 Post (10 there, 11 lost), 12 Diary (13 lines: 14 counts, 15 items), 16 + 7 i the i-th Work (+1 wanted: +2, +3; +4 receivers: +5, +6) -/
def kd (k : Nat) : Nat := if k < 16 then [0, 1, 2, 3, 3, 3, 4, 3, 3, 5, 3, 3, 6, 4, 3, 3].getD k 3 else [7, 4, 3, 3, 4, 3, 3].getD ((k - 16) % 7) 3
def ln (k : Nat) : Nat := if k < 16 then [0, 12, 0, 10, 10, 10, 0, 10, 120, 0, 144, 144, 0, 0, 1, 300].getD k 0 else [0, 0, 10, 40, 0, 10, 20].getD ((k - 16) % 7) 0
def enc (cI cW : ClassId) (ad : Nat → Nat) (M : Mem) (k : Nat) : va_E :=
  if kd k = 3 then .inl (cI, ln k, .inl (M k))
  else if kd k = 4 then .inr (2, [.int (M k 0), .ref (ad (k + 1)), .ref (ad (k + 2))])
  else if kd k = 7 then .inr (4, [.int (M k 0), .ref (ad (k + 1)), .ref (ad (k + 4)), .int (M k 3), .int (M k 4), .int (M k 5), .int (M k 6), .int (M k 7), .int (M k 8), .int (M k 9), .int (M k 10), .int (M k 11)])
  else if kd k = 0 then .inr (5, [.ref (ad (k + 1)), .int (M k 1), .ref (ad (k + 2)), .ref (ad (k + 9)), .ref (ad (k + 12))])
  else if kd k = 1 then .inl (cW, 12, .inr (.inr (.inr (.inr (fun i => some (ad (16 + 7 * i)))))))
  else if kd k = 2 then .inr (3, [.ref (ad (k + 1)), .ref (ad (k + 2)), .ref (ad (k + 3)), .ref (ad (k + 4))])
  else if kd k = 5 then .inr (1, [.ref (ad (k + 1)), .ref (ad (k + 2)), .int (M k 2)])
  else .inr (0, [.ref (ad (k + 1))])
abbrev cW (cI cW9 : ClassId) (ad : Nat → Nat) (M : Mem) : va_W := cwl 100 ad (enc cI cW9 ad M)
section CWG
variable {cI c9 : ClassId} {ad : Nat → Nat} {M : Mem} {k : Nat}
theorem cw_arr (hk : k < 100) (h : kd k = 3) : (cW cI c9 ad M)[k]? = some (ad k, .inl (cI, ln k, .inl (M k))) := by
  rw [cwl_get hk]; simp [enc, h]
theorem cw_rows (hk : k < 100) (h : kd k = 4) : (cW cI c9 ad M)[k]? = some (ad k, .inr (2, [.int (M k 0), .ref (ad (k + 1)), .ref (ad (k + 2))])) := by
  rw [cwl_get hk]; simp [enc, h]
theorem cw_work (hk : k < 100) (h : kd k = 7) : (cW cI c9 ad M)[k]? = some (ad k, .inr (4, [.int (M k 0), .ref (ad (k + 1)), .ref (ad (k + 4)), .int (M k 3), .int (M k 4), .int (M k 5), .int (M k 6), .int (M k 7), .int (M k 8), .int (M k 9), .int (M k 10), .int (M k 11)])) := by
  rw [cwl_get hk]; simp [enc, h]
theorem cw_lt : (cW cI c9 ad M)[0]? = some (ad 0, .inr (5, [.ref (ad 1), .int (M 0 1), .ref (ad 2), .ref (ad 9), .ref (ad 12)])) := by
  rw [cwl_get (by decide)]; simp [enc, kd]
theorem cw_ws : (cW cI c9 ad M)[1]? = some (ad 1, .inl (c9, 12, .inr (.inr (.inr (.inr (fun i => some (ad (16 + 7 * i)))))))) := by
  rw [cwl_get (by decide)]; simp [enc, kd]
theorem cw_shelf : (cW cI c9 ad M)[2]? = some (ad 2, .inr (3, [.ref (ad 3), .ref (ad 4), .ref (ad 5), .ref (ad 6)])) := by
  rw [cwl_get (by decide)]; simp [enc, kd]
theorem cw_post : (cW cI c9 ad M)[9]? = some (ad 9, .inr (1, [.ref (ad 10), .ref (ad 11), .int (M 9 2)])) := by
  rw [cwl_get (by decide)]; simp [enc, kd]
theorem cw_diary : (cW cI c9 ad M)[12]? = some (ad 12, .inr (0, [.ref (ad 13)])) := by
  rw [cwl_get (by decide)]; simp [enc, kd]
theorem en_arr {g : Nat → Int32} (h : kd k = 3) : va_up (enc cI c9 ad M) k (.inl (cI, ln k, .inl g)) = enc cI c9 ad (va_up M k g) := by
  funext a
  by_cases ha : a = k
  · subst ha; simp [va_up, enc, h]
  · simp only [va_up_ne _ _ ha, enc]
theorem en_obj {ci : Nat} {fs : List Value} {g : Nat → Int32} (h : enc cI c9 ad (va_up M k g) k = .inr (ci, fs)) : va_up (enc cI c9 ad M) k (.inr (ci, fs)) = enc cI c9 ad (va_up M k g) := by
  funext a
  by_cases ha : a = k
  · subst ha; rw [va_up_self, h]
  · simp only [va_up_ne _ _ ha, enc]
end CWG
/-- an index below a bound's number -/
theorem upd_us {f : Nat → Int32} {k : Nat} {x : Int32} : upd f k x k = x := pk_us
theorem upd_un {f : Nat → Int32} {k j : Nat} {x : Int32} (h : j ≠ k) : upd f k x j = f j := pk_un h
section EP
variable {cI c9 : ClassId} {ad : Nat → Nat} {M : Mem} {k : Nat} {v : Int32}
theorem en_p0 : va_up (enc cI c9 ad M) 0 (.inr (5, [.ref (ad 1), .int v, .ref (ad 2), .ref (ad 9), .ref (ad 12)])) = enc cI c9 ad (up2 M 0 1 v) := en_obj (by simp [enc, kd, va_up, upd])
theorem en_p9 : va_up (enc cI c9 ad M) 9 (.inr (1, [.ref (ad 10), .ref (ad 11), .int v])) = enc cI c9 ad (up2 M 9 2 v) := en_obj (by simp [enc, kd, va_up, upd])
theorem en_w3 (h : kd k = 7) : va_up (enc cI c9 ad M) k (.inr (4, [.int (M k 0), .ref (ad (k + 1)), .ref (ad (k + 4)), .int v, .int (M k 4), .int (M k 5), .int (M k 6), .int (M k 7), .int (M k 8), .int (M k 9), .int (M k 10), .int (M k 11)])) = enc cI c9 ad (up2 M k 3 v) := en_obj (by simp [enc, h, va_up, upd])
theorem en_w4 (h : kd k = 7) : va_up (enc cI c9 ad M) k (.inr (4, [.int (M k 0), .ref (ad (k + 1)), .ref (ad (k + 4)), .int (M k 3), .int v, .int (M k 5), .int (M k 6), .int (M k 7), .int (M k 8), .int (M k 9), .int (M k 10), .int (M k 11)])) = enc cI c9 ad (up2 M k 4 v) := en_obj (by simp [enc, h, va_up, upd])
theorem en_w5 (h : kd k = 7) : va_up (enc cI c9 ad M) k (.inr (4, [.int (M k 0), .ref (ad (k + 1)), .ref (ad (k + 4)), .int (M k 3), .int (M k 4), .int v, .int (M k 6), .int (M k 7), .int (M k 8), .int (M k 9), .int (M k 10), .int (M k 11)])) = enc cI c9 ad (up2 M k 5 v) := en_obj (by simp [enc, h, va_up, upd])
theorem en_w6 (h : kd k = 7) : va_up (enc cI c9 ad M) k (.inr (4, [.int (M k 0), .ref (ad (k + 1)), .ref (ad (k + 4)), .int (M k 3), .int (M k 4), .int (M k 5), .int v, .int (M k 7), .int (M k 8), .int (M k 9), .int (M k 10), .int (M k 11)])) = enc cI c9 ad (up2 M k 6 v) := en_obj (by simp [enc, h, va_up, upd])
theorem en_w7 (h : kd k = 7) : va_up (enc cI c9 ad M) k (.inr (4, [.int (M k 0), .ref (ad (k + 1)), .ref (ad (k + 4)), .int (M k 3), .int (M k 4), .int (M k 5), .int (M k 6), .int v, .int (M k 8), .int (M k 9), .int (M k 10), .int (M k 11)])) = enc cI c9 ad (up2 M k 7 v) := en_obj (by simp [enc, h, va_up, upd])
theorem en_w8 (h : kd k = 7) : va_up (enc cI c9 ad M) k (.inr (4, [.int (M k 0), .ref (ad (k + 1)), .ref (ad (k + 4)), .int (M k 3), .int (M k 4), .int (M k 5), .int (M k 6), .int (M k 7), .int v, .int (M k 9), .int (M k 10), .int (M k 11)])) = enc cI c9 ad (up2 M k 8 v) := en_obj (by simp [enc, h, va_up, upd])
theorem en_w9 (h : kd k = 7) : va_up (enc cI c9 ad M) k (.inr (4, [.int (M k 0), .ref (ad (k + 1)), .ref (ad (k + 4)), .int (M k 3), .int (M k 4), .int (M k 5), .int (M k 6), .int (M k 7), .int (M k 8), .int v, .int (M k 10), .int (M k 11)])) = enc cI c9 ad (up2 M k 9 v) := en_obj (by simp [enc, h, va_up, upd])
theorem en_w10 (h : kd k = 7) : va_up (enc cI c9 ad M) k (.inr (4, [.int (M k 0), .ref (ad (k + 1)), .ref (ad (k + 4)), .int (M k 3), .int (M k 4), .int (M k 5), .int (M k 6), .int (M k 7), .int (M k 8), .int (M k 9), .int v, .int (M k 11)])) = enc cI c9 ad (up2 M k 10 v) := en_obj (by simp [enc, h, va_up, upd])
theorem en_w11 (h : kd k = 7) : va_up (enc cI c9 ad M) k (.inr (4, [.int (M k 0), .ref (ad (k + 1)), .ref (ad (k + 4)), .int (M k 3), .int (M k 4), .int (M k 5), .int (M k 6), .int (M k 7), .int (M k 8), .int (M k 9), .int (M k 10), .int v])) = enc cI c9 ad (up2 M k 11 v) := en_obj (by simp [enc, h, va_up, upd])
end EP
end
section
theorem zz_last : True := trivial
end
